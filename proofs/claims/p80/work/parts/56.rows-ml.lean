theorem dX9_all_0 : decode cX9_all 0 = .ok (.aload_n 0, 1) := by decide +kernel
theorem dX9_all_1 : decode cX9_all 1 = .ok (.iload_n 1, 1) := by decide +kernel
theorem dX9_all_2 : decode cX9_all 2 = .ok (.invokevirtual 399, 3) := by decide +kernel
theorem dX9_all_5 : decode cX9_all 5 = .ok (.ifCond .eq 10, 3) := by decide +kernel
theorem dX9_all_8 : decode cX9_all 8 = .ok (.aload_n 0, 1) := by decide +kernel
theorem dX9_all_9 : decode cX9_all 9 = .ok (.getfield 367, 3) := by decide +kernel
theorem dX9_all_12 : decode cX9_all 12 = .ok (.goto 5, 3) := by decide +kernel
theorem dX9_all_15 : decode cX9_all 15 = .ok (.bipush (-2), 2) := by decide +kernel
theorem dX9_all_17 : decode cX9_all 17 = .ok (.ireturn, 1) := by decide +kernel
theorem dX9_alone_0 : decode cX9_alone 0 = .ok (.aload_n 0, 1) := by decide +kernel
theorem dX9_alone_1 : decode cX9_alone 1 = .ok (.invokevirtual 318, 3) := by decide +kernel
theorem dX9_alone_4 : decode cX9_alone 4 = .ok (.ifCond .eq 18, 3) := by decide +kernel
theorem dX9_alone_7 : decode cX9_alone 7 = .ok (.aload_n 0, 1) := by decide +kernel
theorem dX9_alone_8 : decode cX9_alone 8 = .ok (.iload_n 1, 1) := by decide +kernel
theorem dX9_alone_9 : decode cX9_alone 9 = .ok (.invokevirtual 256, 3) := by decide +kernel
theorem dX9_alone_12 : decode cX9_alone 12 = .ok (.ifCond .eq 10, 3) := by decide +kernel
theorem dX9_alone_15 : decode cX9_alone 15 = .ok (.iload_n 2, 1) := by decide +kernel
theorem dX9_alone_16 : decode cX9_alone 16 = .ok (.invokestatic 357, 3) := by decide +kernel
theorem dX9_alone_19 : decode cX9_alone 19 = .ok (.ifCond .ne 6, 3) := by decide +kernel
theorem dX9_alone_22 : decode cX9_alone 22 = .ok (.bipush (-2), 2) := by decide +kernel
theorem dX9_alone_24 : decode cX9_alone 24 = .ok (.ireturn, 1) := by decide +kernel
theorem dX9_alone_25 : decode cX9_alone 25 = .ok (.aload_n 0, 1) := by decide +kernel
theorem dX9_alone_26 : decode cX9_alone 26 = .ok (.aload_n 0, 1) := by decide +kernel
theorem dX9_alone_27 : decode cX9_alone 27 = .ok (.invokevirtual 402, 3) := by decide +kernel
theorem dX9_alone_30 : decode cX9_alone 30 = .ok (.iconst 1, 1) := by decide +kernel
theorem dX9_alone_31 : decode cX9_alone 31 = .ok (.iload_n 1, 1) := by decide +kernel
theorem dX9_alone_32 : decode cX9_alone 32 = .ok (.ishl, 1) := by decide +kernel
theorem dX9_alone_33 : decode cX9_alone 33 = .ok (.iconst (-1), 1) := by decide +kernel
theorem dX9_alone_34 : decode cX9_alone 34 = .ok (.ixor, 1) := by decide +kernel
theorem dX9_alone_35 : decode cX9_alone 35 = .ok (.iand, 1) := by decide +kernel
theorem dX9_alone_36 : decode cX9_alone 36 = .ok (.aload_n 0, 1) := by decide +kernel
theorem dX9_alone_37 : decode cX9_alone 37 = .ok (.getfield 279, 3) := by decide +kernel
theorem dX9_alone_40 : decode cX9_alone 40 = .ok (.iload_n 2, 1) := by decide +kernel
theorem dX9_alone_41 : decode cX9_alone 41 = .ok (.invokevirtual 405, 3) := by decide +kernel
theorem dX9_alone_44 : decode cX9_alone 44 = .ok (.ifCond .eq 7, 3) := by decide +kernel
theorem dX9_alone_47 : decode cX9_alone 47 = .ok (.iconst 1, 1) := by decide +kernel
theorem dX9_alone_48 : decode cX9_alone 48 = .ok (.goto 4, 3) := by decide +kernel
theorem dX9_alone_51 : decode cX9_alone 51 = .ok (.iconst 0, 1) := by decide +kernel
theorem dX9_alone_52 : decode cX9_alone 52 = .ok (.ireturn, 1) := by decide +kernel
theorem dX9_askFits_0 : decode cX9_askFits 0 = .ok (.aload_n 0, 1) := by decide +kernel
theorem dX9_askFits_1 : decode cX9_askFits 1 = .ok (.iload_n 1, 1) := by decide +kernel
theorem dX9_askFits_2 : decode cX9_askFits 2 = .ok (.invokevirtual 443, 3) := by decide +kernel
theorem dX9_askFits_5 : decode cX9_askFits 5 = .ok (.istore_n 2, 1) := by decide +kernel
theorem dX9_askFits_6 : decode cX9_askFits 6 = .ok (.iload_n 2, 1) := by decide +kernel
theorem dX9_askFits_7 : decode cX9_askFits 7 = .ok (.ifCond .ne 8, 3) := by decide +kernel
theorem dX9_askFits_10 : decode cX9_askFits 10 = .ok (.aload_n 0, 1) := by decide +kernel
theorem dX9_askFits_11 : decode cX9_askFits 11 = .ok (.iload_n 1, 1) := by decide +kernel
theorem dX9_askFits_12 : decode cX9_askFits 12 = .ok (.invokevirtual 446, 3) := by decide +kernel
theorem dX9_askFits_15 : decode cX9_askFits 15 = .ok (.iload_n 2, 1) := by decide +kernel
theorem dX9_askFits_16 : decode cX9_askFits 16 = .ok (.ireturn, 1) := by decide +kernel
theorem dX9_askSeen_0 : decode cX9_askSeen 0 = .ok (.iload_n 1, 1) := by decide +kernel
theorem dX9_askSeen_1 : decode cX9_askSeen 1 = .ok (.invokestatic 430, 3) := by decide +kernel
theorem dX9_askSeen_4 : decode cX9_askSeen 4 = .ok (.ifCond .eq 10, 3) := by decide +kernel
theorem dX9_askSeen_7 : decode cX9_askSeen 7 = .ok (.aload_n 0, 1) := by decide +kernel
theorem dX9_askSeen_8 : decode cX9_askSeen 8 = .ok (.invokevirtual 92, 3) := by decide +kernel
theorem dX9_askSeen_11 : decode cX9_askSeen 11 = .ok (.ifCond .ne 6, 3) := by decide +kernel
theorem dX9_askSeen_14 : decode cX9_askSeen 14 = .ok (.bipush (-2), 2) := by decide +kernel
theorem dX9_askSeen_16 : decode cX9_askSeen 16 = .ok (.ireturn, 1) := by decide +kernel
theorem dX9_askSeen_17 : decode cX9_askSeen 17 = .ok (.aload_n 0, 1) := by decide +kernel
theorem dX9_askSeen_18 : decode cX9_askSeen 18 = .ok (.getfield 58, 3) := by decide +kernel
theorem dX9_askSeen_21 : decode cX9_askSeen 21 = .ok (.iload_n 1, 1) := by decide +kernel
theorem dX9_askSeen_22 : decode cX9_askSeen 22 = .ok (.iaload, 1) := by decide +kernel
theorem dX9_askSeen_23 : decode cX9_askSeen 23 = .ok (.iconst (-1), 1) := by decide +kernel
theorem dX9_askSeen_24 : decode cX9_askSeen 24 = .ok (.if_icmp .ne 6, 3) := by decide +kernel
theorem dX9_askSeen_27 : decode cX9_askSeen 27 = .ok (.bipush (-6), 2) := by decide +kernel
theorem dX9_askSeen_29 : decode cX9_askSeen 29 = .ok (.ireturn, 1) := by decide +kernel
theorem dX9_askSeen_30 : decode cX9_askSeen 30 = .ok (.aload_n 0, 1) := by decide +kernel
theorem dX9_askSeen_31 : decode cX9_askSeen 31 = .ok (.getfield 58, 3) := by decide +kernel
theorem dX9_askSeen_34 : decode cX9_askSeen 34 = .ok (.iload_n 1, 1) := by decide +kernel
theorem dX9_askSeen_35 : decode cX9_askSeen 35 = .ok (.iaload, 1) := by decide +kernel
theorem dX9_askSeen_36 : decode cX9_askSeen 36 = .ok (.iconst 3, 1) := by decide +kernel
theorem dX9_askSeen_37 : decode cX9_askSeen 37 = .ok (.irem, 1) := by decide +kernel
theorem dX9_askSeen_38 : decode cX9_askSeen 38 = .ok (.ifCond .eq 6, 3) := by decide +kernel
theorem dX9_askSeen_41 : decode cX9_askSeen 41 = .ok (.bipush (-2), 2) := by decide +kernel
theorem dX9_askSeen_43 : decode cX9_askSeen 43 = .ok (.ireturn, 1) := by decide +kernel
theorem dX9_askSeen_44 : decode cX9_askSeen 44 = .ok (.iconst 0, 1) := by decide +kernel
theorem dX9_askSeen_45 : decode cX9_askSeen 45 = .ok (.istore_n 2, 1) := by decide +kernel
theorem dX9_askSeen_46 : decode cX9_askSeen 46 = .ok (.iload_n 2, 1) := by decide +kernel
theorem dX9_askSeen_47 : decode cX9_askSeen 47 = .ok (.aload_n 0, 1) := by decide +kernel
theorem dX9_askSeen_48 : decode cX9_askSeen 48 = .ok (.getfield 58, 3) := by decide +kernel
theorem dX9_askSeen_51 : decode cX9_askSeen 51 = .ok (.iload_n 1, 1) := by decide +kernel
theorem dX9_askSeen_52 : decode cX9_askSeen 52 = .ok (.iaload, 1) := by decide +kernel
theorem dX9_askSeen_53 : decode cX9_askSeen 53 = .ok (.if_icmp .ge 25, 3) := by decide +kernel
theorem dX9_askSeen_56 : decode cX9_askSeen 56 = .ok (.aload_n 0, 1) := by decide +kernel
theorem dX9_askSeen_57 : decode cX9_askSeen 57 = .ok (.aload_n 0, 1) := by decide +kernel
theorem dX9_askSeen_58 : decode cX9_askSeen 58 = .ok (.iload_n 1, 1) := by decide +kernel
theorem dX9_askSeen_59 : decode cX9_askSeen 59 = .ok (.iload_n 2, 1) := by decide +kernel
theorem dX9_askSeen_60 : decode cX9_askSeen 60 = .ok (.invokevirtual 433, 3) := by decide +kernel
theorem dX9_askSeen_63 : decode cX9_askSeen 63 = .ok (.invokevirtual 314, 3) := by decide +kernel
theorem dX9_askSeen_66 : decode cX9_askSeen 66 = .ok (.ifCond .ne 6, 3) := by decide +kernel
theorem dX9_askSeen_69 : decode cX9_askSeen 69 = .ok (.bipush (-2), 2) := by decide +kernel
theorem dX9_askSeen_71 : decode cX9_askSeen 71 = .ok (.ireturn, 1) := by decide +kernel
theorem dX9_askSeen_72 : decode cX9_askSeen 72 = .ok (.iinc 2 1, 3) := by decide +kernel
theorem dX9_askSeen_75 : decode cX9_askSeen 75 = .ok (.goto (-29), 3) := by decide +kernel
theorem dX9_askSeen_78 : decode cX9_askSeen 78 = .ok (.aload_n 0, 1) := by decide +kernel
theorem dX9_askSeen_79 : decode cX9_askSeen 79 = .ok (.invokevirtual 318, 3) := by decide +kernel
theorem dX9_askSeen_82 : decode cX9_askSeen 82 = .ok (.pop, 1) := by decide +kernel
theorem dX9_askSeen_83 : decode cX9_askSeen 83 = .ok (.iconst 0, 1) := by decide +kernel
theorem dX9_askSeen_84 : decode cX9_askSeen 84 = .ok (.ireturn, 1) := by decide +kernel
theorem dX9_asksIn_0 : decode cX9_asksIn 0 = .ok (.aload_n 0, 1) := by decide +kernel
theorem dX9_asksIn_1 : decode cX9_asksIn 1 = .ok (.invokevirtual 318, 3) := by decide +kernel
theorem dX9_asksIn_4 : decode cX9_asksIn 4 = .ok (.ifCond .eq 10, 3) := by decide +kernel
theorem dX9_asksIn_7 : decode cX9_asksIn 7 = .ok (.iload_n 1, 1) := by decide +kernel
theorem dX9_asksIn_8 : decode cX9_asksIn 8 = .ok (.invokestatic 357, 3) := by decide +kernel
theorem dX9_asksIn_11 : decode cX9_asksIn 11 = .ok (.ifCond .ne 5, 3) := by decide +kernel
theorem dX9_asksIn_14 : decode cX9_asksIn 14 = .ok (.iconst 0, 1) := by decide +kernel
theorem dX9_asksIn_15 : decode cX9_asksIn 15 = .ok (.ireturn, 1) := by decide +kernel
theorem dX9_asksIn_16 : decode cX9_asksIn 16 = .ok (.aload_n 0, 1) := by decide +kernel
theorem dX9_asksIn_17 : decode cX9_asksIn 17 = .ok (.iload_n 1, 1) := by decide +kernel
theorem dX9_asksIn_18 : decode cX9_asksIn 18 = .ok (.invokevirtual 393, 3) := by decide +kernel
theorem dX9_asksIn_21 : decode cX9_asksIn 21 = .ok (.pop, 1) := by decide +kernel
theorem dX9_asksIn_22 : decode cX9_asksIn 22 = .ok (.iconst 1, 1) := by decide +kernel
theorem dX9_asksIn_23 : decode cX9_asksIn 23 = .ok (.ireturn, 1) := by decide +kernel
theorem dX9_asksLocks_0 : decode cX9_asksLocks 0 = .ok (.aload_n 0, 1) := by decide +kernel
theorem dX9_asksLocks_1 : decode cX9_asksLocks 1 = .ok (.invokevirtual 318, 3) := by decide +kernel
theorem dX9_asksLocks_4 : decode cX9_asksLocks 4 = .ok (.ifCond .eq 10, 3) := by decide +kernel
theorem dX9_asksLocks_7 : decode cX9_asksLocks 7 = .ok (.iload_n 1, 1) := by decide +kernel
theorem dX9_asksLocks_8 : decode cX9_asksLocks 8 = .ok (.invokestatic 357, 3) := by decide +kernel
theorem dX9_asksLocks_11 : decode cX9_asksLocks 11 = .ok (.ifCond .ne 5, 3) := by decide +kernel
theorem dX9_asksLocks_14 : decode cX9_asksLocks 14 = .ok (.iconst 0, 1) := by decide +kernel
theorem dX9_asksLocks_15 : decode cX9_asksLocks 15 = .ok (.ireturn, 1) := by decide +kernel
theorem dX9_asksLocks_16 : decode cX9_asksLocks 16 = .ok (.aload_n 0, 1) := by decide +kernel
theorem dX9_asksLocks_17 : decode cX9_asksLocks 17 = .ok (.iload_n 1, 1) := by decide +kernel
theorem dX9_asksLocks_18 : decode cX9_asksLocks 18 = .ok (.invokevirtual 421, 3) := by decide +kernel
theorem dX9_asksLocks_21 : decode cX9_asksLocks 21 = .ok (.iconst 1, 1) := by decide +kernel
theorem dX9_asksLocks_22 : decode cX9_asksLocks 22 = .ok (.ireturn, 1) := by decide +kernel
theorem dX9_bad_0 : decode cX9_bad 0 = .ok (.aload_n 0, 1) := by decide +kernel
theorem dX9_bad_1 : decode cX9_bad 1 = .ok (.invokevirtual 318, 3) := by decide +kernel
theorem dX9_bad_4 : decode cX9_bad 4 = .ok (.ifCond .eq 28, 3) := by decide +kernel
theorem dX9_bad_7 : decode cX9_bad 7 = .ok (.aload_n 0, 1) := by decide +kernel
theorem dX9_bad_8 : decode cX9_bad 8 = .ok (.iload_n 1, 1) := by decide +kernel
theorem dX9_bad_9 : decode cX9_bad 9 = .ok (.i2l, 1) := by decide +kernel
theorem dX9_bad_10 : decode cX9_bad 10 = .ok (.invokevirtual 314, 3) := by decide +kernel
theorem dX9_bad_13 : decode cX9_bad 13 = .ok (.ifCond .eq 19, 3) := by decide +kernel
theorem dX9_bad_16 : decode cX9_bad 16 = .ok (.iload_n 2, 1) := by decide +kernel
theorem dX9_bad_17 : decode cX9_bad 17 = .ok (.invokestatic 357, 3) := by decide +kernel
theorem dX9_bad_20 : decode cX9_bad 20 = .ok (.ifCond .eq 12, 3) := by decide +kernel
theorem dX9_bad_23 : decode cX9_bad 23 = .ok (.aload_n 0, 1) := by decide +kernel
theorem dX9_bad_24 : decode cX9_bad 24 = .ok (.iload_n 1, 1) := by decide +kernel
theorem dX9_bad_25 : decode cX9_bad 25 = .ok (.iload_n 2, 1) := by decide +kernel
theorem dX9_bad_26 : decode cX9_bad 26 = .ok (.invokevirtual 396, 3) := by decide +kernel
theorem dX9_bad_29 : decode cX9_bad 29 = .ok (.goto 5, 3) := by decide +kernel
theorem dX9_bad_32 : decode cX9_bad 32 = .ok (.bipush (-2), 2) := by decide +kernel
theorem dX9_bad_34 : decode cX9_bad 34 = .ok (.ireturn, 1) := by decide +kernel
theorem dX9_bare_0 : decode cX9_bare 0 = .ok (.aload_n 0, 1) := by decide +kernel
theorem dX9_bare_1 : decode cX9_bare 1 = .ok (.invokevirtual 318, 3) := by decide +kernel
theorem dX9_bare_4 : decode cX9_bare 4 = .ok (.ifCond .eq 10, 3) := by decide +kernel
theorem dX9_bare_7 : decode cX9_bare 7 = .ok (.iload_n 1, 1) := by decide +kernel
theorem dX9_bare_8 : decode cX9_bare 8 = .ok (.invokestatic 357, 3) := by decide +kernel
theorem dX9_bare_11 : decode cX9_bare 11 = .ok (.ifCond .ne 6, 3) := by decide +kernel
theorem dX9_bare_14 : decode cX9_bare 14 = .ok (.bipush (-2), 2) := by decide +kernel
theorem dX9_bare_16 : decode cX9_bare 16 = .ok (.ireturn, 1) := by decide +kernel
theorem dX9_bare_17 : decode cX9_bare 17 = .ok (.iconst 0, 1) := by decide +kernel
theorem dX9_bare_18 : decode cX9_bare 18 = .ok (.istore_n 2, 1) := by decide +kernel
theorem dX9_bare_19 : decode cX9_bare 19 = .ok (.iconst 0, 1) := by decide +kernel
theorem dX9_bare_20 : decode cX9_bare 20 = .ok (.istore_n 3, 1) := by decide +kernel
theorem dX9_bare_21 : decode cX9_bare 21 = .ok (.iload_n 3, 1) := by decide +kernel
theorem dX9_bare_22 : decode cX9_bare 22 = .ok (.aload_n 0, 1) := by decide +kernel
theorem dX9_bare_23 : decode cX9_bare 23 = .ok (.invokevirtual 96, 3) := by decide +kernel
theorem dX9_bare_26 : decode cX9_bare 26 = .ok (.if_icmp .ge 26, 3) := by decide +kernel
theorem dX9_bare_29 : decode cX9_bare 29 = .ok (.iload_n 2, 1) := by decide +kernel
theorem dX9_bare_30 : decode cX9_bare 30 = .ok (.aload_n 0, 1) := by decide +kernel
theorem dX9_bare_31 : decode cX9_bare 31 = .ok (.iload_n 3, 1) := by decide +kernel
theorem dX9_bare_32 : decode cX9_bare 32 = .ok (.iload_n 1, 1) := by decide +kernel
theorem dX9_bare_33 : decode cX9_bare 33 = .ok (.invokevirtual 396, 3) := by decide +kernel
theorem dX9_bare_36 : decode cX9_bare 36 = .ok (.ifCond .le 7, 3) := by decide +kernel
theorem dX9_bare_39 : decode cX9_bare 39 = .ok (.iconst 1, 1) := by decide +kernel
theorem dX9_bare_40 : decode cX9_bare 40 = .ok (.goto 4, 3) := by decide +kernel
theorem dX9_bare_43 : decode cX9_bare 43 = .ok (.iconst 0, 1) := by decide +kernel
theorem dX9_bare_44 : decode cX9_bare 44 = .ok (.iadd, 1) := by decide +kernel
theorem dX9_bare_45 : decode cX9_bare 45 = .ok (.istore_n 2, 1) := by decide +kernel
theorem dX9_bare_46 : decode cX9_bare 46 = .ok (.iinc 3 1, 3) := by decide +kernel
theorem dX9_bare_49 : decode cX9_bare 49 = .ok (.goto (-28), 3) := by decide +kernel
theorem dX9_bare_52 : decode cX9_bare 52 = .ok (.iload_n 2, 1) := by decide +kernel
theorem dX9_bare_53 : decode cX9_bare 53 = .ok (.ireturn, 1) := by decide +kernel
theorem dX9_begins_0 : decode cX9_begins 0 = .ok (.aload_n 0, 1) := by decide +kernel
theorem dX9_begins_1 : decode cX9_begins 1 = .ok (.iconst 0, 1) := by decide +kernel
theorem dX9_begins_2 : decode cX9_begins 2 = .ok (.putfield 367, 3) := by decide +kernel
theorem dX9_begins_5 : decode cX9_begins 5 = .ok (.aload_n 0, 1) := by decide +kernel
theorem dX9_begins_6 : decode cX9_begins 6 = .ok (.ldc_w 324, 3) := by decide +kernel
theorem dX9_begins_9 : decode cX9_begins 9 = .ok (.putfield 370, 3) := by decide +kernel
theorem dX9_begins_12 : decode cX9_begins 12 = .ok (.iconst 0, 1) := by decide +kernel
theorem dX9_begins_13 : decode cX9_begins 13 = .ok (.istore_n 1, 1) := by decide +kernel
theorem dX9_begins_14 : decode cX9_begins 14 = .ok (.iload_n 1, 1) := by decide +kernel
theorem dX9_begins_15 : decode cX9_begins 15 = .ok (.sipush 4096, 3) := by decide +kernel
theorem dX9_begins_18 : decode cX9_begins 18 = .ok (.if_icmp .ge 16, 3) := by decide +kernel
theorem dX9_begins_21 : decode cX9_begins 21 = .ok (.aload_n 0, 1) := by decide +kernel
theorem dX9_begins_22 : decode cX9_begins 22 = .ok (.getfield 49, 3) := by decide +kernel
theorem dX9_begins_25 : decode cX9_begins 25 = .ok (.iload_n 1, 1) := by decide +kernel
theorem dX9_begins_26 : decode cX9_begins 26 = .ok (.iconst 0, 1) := by decide +kernel
theorem dX9_begins_27 : decode cX9_begins 27 = .ok (.bastore, 1) := by decide +kernel
theorem dX9_begins_28 : decode cX9_begins 28 = .ok (.iinc 1 1, 3) := by decide +kernel
theorem dX9_begins_31 : decode cX9_begins 31 = .ok (.goto (-17), 3) := by decide +kernel
theorem dX9_begins_34 : decode cX9_begins 34 = .ok (.iconst 0, 1) := by decide +kernel
theorem dX9_begins_35 : decode cX9_begins 35 = .ok (.istore_n 1, 1) := by decide +kernel
theorem dX9_begins_36 : decode cX9_begins 36 = .ok (.iload_n 1, 1) := by decide +kernel
theorem dX9_begins_37 : decode cX9_begins 37 = .ok (.iconst 5, 1) := by decide +kernel
theorem dX9_begins_38 : decode cX9_begins 38 = .ok (.if_icmp .ge 16, 3) := by decide +kernel
theorem dX9_begins_41 : decode cX9_begins 41 = .ok (.aload_n 0, 1) := by decide +kernel
theorem dX9_begins_42 : decode cX9_begins 42 = .ok (.getfield 52, 3) := by decide +kernel
theorem dX9_begins_45 : decode cX9_begins 45 = .ok (.iload_n 1, 1) := by decide +kernel
theorem dX9_begins_46 : decode cX9_begins 46 = .ok (.iconst 0, 1) := by decide +kernel
theorem dX9_begins_47 : decode cX9_begins 47 = .ok (.iastore, 1) := by decide +kernel
theorem dX9_begins_48 : decode cX9_begins 48 = .ok (.iinc 1 1, 3) := by decide +kernel
theorem dX9_begins_51 : decode cX9_begins 51 = .ok (.goto (-15), 3) := by decide +kernel
theorem dX9_begins_54 : decode cX9_begins 54 = .ok (.return_, 1) := by decide +kernel
theorem dX9_blame_0 : decode cX9_blame 0 = .ok (.aload_n 0, 1) := by decide +kernel
theorem dX9_blame_1 : decode cX9_blame 1 = .ok (.invokevirtual 318, 3) := by decide +kernel
theorem dX9_blame_4 : decode cX9_blame 4 = .ok (.ifCond .ne 6, 3) := by decide +kernel
theorem dX9_blame_7 : decode cX9_blame 7 = .ok (.bipush (-2), 2) := by decide +kernel
theorem dX9_blame_9 : decode cX9_blame 9 = .ok (.ireturn, 1) := by decide +kernel
theorem dX9_blame_10 : decode cX9_blame 10 = .ok (.aload_n 0, 1) := by decide +kernel
theorem dX9_blame_11 : decode cX9_blame 11 = .ok (.getfield 282, 3) := by decide +kernel
theorem dX9_blame_14 : decode cX9_blame 14 = .ok (.istore_n 1, 1) := by decide +kernel
theorem dX9_blame_15 : decode cX9_blame 15 = .ok (.aload_n 0, 1) := by decide +kernel
theorem dX9_blame_16 : decode cX9_blame 16 = .ok (.iconst 1, 1) := by decide +kernel
theorem dX9_blame_17 : decode cX9_blame 17 = .ok (.invokevirtual 393, 3) := by decide +kernel
theorem dX9_blame_20 : decode cX9_blame 20 = .ok (.istore_n 2, 1) := by decide +kernel
theorem dX9_blame_21 : decode cX9_blame 21 = .ok (.iconst (-1), 1) := by decide +kernel
theorem dX9_blame_22 : decode cX9_blame 22 = .ok (.istore_n 3, 1) := by decide +kernel
theorem dX9_blame_23 : decode cX9_blame 23 = .ok (.iconst 0, 1) := by decide +kernel
theorem dX9_blame_24 : decode cX9_blame 24 = .ok (.istore 4, 2) := by decide +kernel
theorem dX9_blame_26 : decode cX9_blame 26 = .ok (.iload 4, 2) := by decide +kernel
theorem dX9_blame_28 : decode cX9_blame 28 = .ok (.aload_n 0, 1) := by decide +kernel
theorem dX9_blame_29 : decode cX9_blame 29 = .ok (.invokevirtual 80, 3) := by decide +kernel
theorem dX9_blame_32 : decode cX9_blame 32 = .ok (.if_icmp .ge 36, 3) := by decide +kernel
theorem dX9_blame_35 : decode cX9_blame 35 = .ok (.aload_n 0, 1) := by decide +kernel
theorem dX9_blame_36 : decode cX9_blame 36 = .ok (.iload_n 1, 1) := by decide +kernel
theorem dX9_blame_37 : decode cX9_blame 37 = .ok (.iconst 1, 1) := by decide +kernel
theorem dX9_blame_38 : decode cX9_blame 38 = .ok (.iload 4, 2) := by decide +kernel
theorem dX9_blame_40 : decode cX9_blame 40 = .ok (.ishl, 1) := by decide +kernel
theorem dX9_blame_41 : decode cX9_blame 41 = .ok (.ior, 1) := by decide +kernel
theorem dX9_blame_42 : decode cX9_blame 42 = .ok (.invokevirtual 427, 3) := by decide +kernel
theorem dX9_blame_45 : decode cX9_blame 45 = .ok (.istore 5, 2) := by decide +kernel
theorem dX9_blame_47 : decode cX9_blame 47 = .ok (.iload 5, 2) := by decide +kernel
theorem dX9_blame_49 : decode cX9_blame 49 = .ok (.iload_n 2, 1) := by decide +kernel
theorem dX9_blame_50 : decode cX9_blame 50 = .ok (.if_icmp .lt 6, 3) := by decide +kernel
theorem dX9_blame_53 : decode cX9_blame 53 = .ok (.goto 9, 3) := by decide +kernel
theorem dX9_blame_56 : decode cX9_blame 56 = .ok (.iload 5, 2) := by decide +kernel
theorem dX9_blame_58 : decode cX9_blame 58 = .ok (.istore_n 2, 1) := by decide +kernel
theorem dX9_blame_59 : decode cX9_blame 59 = .ok (.iload 4, 2) := by decide +kernel
theorem dX9_blame_61 : decode cX9_blame 61 = .ok (.istore_n 3, 1) := by decide +kernel
theorem dX9_blame_62 : decode cX9_blame 62 = .ok (.iinc 4 1, 3) := by decide +kernel
theorem dX9_blame_65 : decode cX9_blame 65 = .ok (.goto (-39), 3) := by decide +kernel
theorem dX9_blame_68 : decode cX9_blame 68 = .ok (.iload_n 3, 1) := by decide +kernel
theorem dX9_blame_69 : decode cX9_blame 69 = .ok (.ireturn, 1) := by decide +kernel
theorem dX9_bound_0 : decode cX9_bound 0 = .ok (.aload_n 0, 1) := by decide +kernel
theorem dX9_bound_1 : decode cX9_bound 1 = .ok (.invokevirtual 318, 3) := by decide +kernel
theorem dX9_bound_4 : decode cX9_bound 4 = .ok (.ifCond .ne 6, 3) := by decide +kernel
theorem dX9_bound_7 : decode cX9_bound 7 = .ok (.bipush (-2), 2) := by decide +kernel
theorem dX9_bound_9 : decode cX9_bound 9 = .ok (.ireturn, 1) := by decide +kernel
theorem dX9_bound_10 : decode cX9_bound 10 = .ok (.iconst 3, 1) := by decide +kernel
theorem dX9_bound_11 : decode cX9_bound 11 = .ok (.istore_n 1, 1) := by decide +kernel
theorem dX9_bound_12 : decode cX9_bound 12 = .ok (.iload_n 1, 1) := by decide +kernel
theorem dX9_bound_13 : decode cX9_bound 13 = .ok (.ifCond .lt 17, 3) := by decide +kernel
theorem dX9_bound_16 : decode cX9_bound 16 = .ok (.aload_n 0, 1) := by decide +kernel
theorem dX9_bound_17 : decode cX9_bound 17 = .ok (.iload_n 1, 1) := by decide +kernel
theorem dX9_bound_18 : decode cX9_bound 18 = .ok (.invokevirtual 393, 3) := by decide +kernel
theorem dX9_bound_21 : decode cX9_bound 21 = .ok (.ifCond .le 9, 3) := by decide +kernel
theorem dX9_bound_24 : decode cX9_bound 24 = .ok (.iinc 1 (-1), 3) := by decide +kernel
theorem dX9_bound_27 : decode cX9_bound 27 = .ok (.goto (-15), 3) := by decide +kernel
theorem dX9_bound_30 : decode cX9_bound 30 = .ok (.iload_n 1, 1) := by decide +kernel
theorem dX9_bound_31 : decode cX9_bound 31 = .ok (.ireturn, 1) := by decide +kernel
theorem dX9_breaksBy_0 : decode cX9_breaksBy 0 = .ok (.aload_n 0, 1) := by decide +kernel
theorem dX9_breaksBy_1 : decode cX9_breaksBy 1 = .ok (.iload_n 1, 1) := by decide +kernel
theorem dX9_breaksBy_2 : decode cX9_breaksBy 2 = .ok (.putfield 282, 3) := by decide +kernel
theorem dX9_breaksBy_5 : decode cX9_breaksBy 5 = .ok (.aload_n 0, 1) := by decide +kernel
theorem dX9_breaksBy_6 : decode cX9_breaksBy 6 = .ok (.invokevirtual 311, 3) := by decide +kernel
theorem dX9_breaksBy_9 : decode cX9_breaksBy 9 = .ok (.aload_n 0, 1) := by decide +kernel
theorem dX9_breaksBy_10 : decode cX9_breaksBy 10 = .ok (.iconst 1, 1) := by decide +kernel
theorem dX9_breaksBy_11 : decode cX9_breaksBy 11 = .ok (.invokevirtual 393, 3) := by decide +kernel
theorem dX9_breaksBy_14 : decode cX9_breaksBy 14 = .ok (.ireturn, 1) := by decide +kernel
theorem dX9_breaksByLaw_0 : decode cX9_breaksByLaw 0 = .ok (.aload_n 0, 1) := by decide +kernel
theorem dX9_breaksByLaw_1 : decode cX9_breaksByLaw 1 = .ok (.iload_n 1, 1) := by decide +kernel
theorem dX9_breaksByLaw_2 : decode cX9_breaksByLaw 2 = .ok (.putfield 276, 3) := by decide +kernel
theorem dX9_breaksByLaw_5 : decode cX9_breaksByLaw 5 = .ok (.aload_n 0, 1) := by decide +kernel
theorem dX9_breaksByLaw_6 : decode cX9_breaksByLaw 6 = .ok (.iconst 1, 1) := by decide +kernel
theorem dX9_breaksByLaw_7 : decode cX9_breaksByLaw 7 = .ok (.invokevirtual 393, 3) := by decide +kernel
theorem dX9_breaksByLaw_10 : decode cX9_breaksByLaw 10 = .ok (.ireturn, 1) := by decide +kernel
theorem dX9_breaksFrom_0 : decode cX9_breaksFrom 0 = .ok (.aload_n 0, 1) := by decide +kernel
theorem dX9_breaksFrom_1 : decode cX9_breaksFrom 1 = .ok (.invokevirtual 386, 3) := by decide +kernel
theorem dX9_breaksFrom_4 : decode cX9_breaksFrom 4 = .ok (.aload_n 0, 1) := by decide +kernel
theorem dX9_breaksFrom_5 : decode cX9_breaksFrom 5 = .ok (.iload_n 1, 1) := by decide +kernel
theorem dX9_breaksFrom_6 : decode cX9_breaksFrom 6 = .ok (.iload_n 2, 1) := by decide +kernel
theorem dX9_breaksFrom_7 : decode cX9_breaksFrom 7 = .ok (.invokevirtual 389, 3) := by decide +kernel
theorem dX9_breaksFrom_10 : decode cX9_breaksFrom 10 = .ok (.aload_n 0, 1) := by decide +kernel
theorem dX9_breaksFrom_11 : decode cX9_breaksFrom 11 = .ok (.getfield 367, 3) := by decide +kernel
theorem dX9_breaksFrom_14 : decode cX9_breaksFrom 14 = .ok (.ireturn, 1) := by decide +kernel
theorem dX9_breaksIn_0 : decode cX9_breaksIn 0 = .ok (.aload_n 0, 1) := by decide +kernel
theorem dX9_breaksIn_1 : decode cX9_breaksIn 1 = .ok (.invokevirtual 386, 3) := by decide +kernel
theorem dX9_breaksIn_4 : decode cX9_breaksIn 4 = .ok (.iconst 0, 1) := by decide +kernel
theorem dX9_breaksIn_5 : decode cX9_breaksIn 5 = .ok (.istore_n 2, 1) := by decide +kernel
theorem dX9_breaksIn_6 : decode cX9_breaksIn 6 = .ok (.iload_n 2, 1) := by decide +kernel
theorem dX9_breaksIn_7 : decode cX9_breaksIn 7 = .ok (.aload_n 0, 1) := by decide +kernel
theorem dX9_breaksIn_8 : decode cX9_breaksIn 8 = .ok (.invokevirtual 96, 3) := by decide +kernel
theorem dX9_breaksIn_11 : decode cX9_breaksIn 11 = .ok (.if_icmp .ge 15, 3) := by decide +kernel
theorem dX9_breaksIn_14 : decode cX9_breaksIn 14 = .ok (.aload_n 0, 1) := by decide +kernel
theorem dX9_breaksIn_15 : decode cX9_breaksIn 15 = .ok (.iload_n 2, 1) := by decide +kernel
theorem dX9_breaksIn_16 : decode cX9_breaksIn 16 = .ok (.iload_n 1, 1) := by decide +kernel
theorem dX9_breaksIn_17 : decode cX9_breaksIn 17 = .ok (.invokevirtual 389, 3) := by decide +kernel
theorem dX9_breaksIn_20 : decode cX9_breaksIn 20 = .ok (.iinc 2 1, 3) := by decide +kernel
theorem dX9_breaksIn_23 : decode cX9_breaksIn 23 = .ok (.goto (-17), 3) := by decide +kernel
theorem dX9_breaksIn_26 : decode cX9_breaksIn 26 = .ok (.aload_n 0, 1) := by decide +kernel
theorem dX9_breaksIn_27 : decode cX9_breaksIn 27 = .ok (.getfield 367, 3) := by decide +kernel
theorem dX9_breaksIn_30 : decode cX9_breaksIn 30 = .ok (.ireturn, 1) := by decide +kernel
theorem dX9_by_0 : decode cX9_by 0 = .ok (.aload_n 0, 1) := by decide +kernel
theorem dX9_by_1 : decode cX9_by 1 = .ok (.invokevirtual 318, 3) := by decide +kernel
theorem dX9_by_4 : decode cX9_by 4 = .ok (.ifCond .eq 23, 3) := by decide +kernel
theorem dX9_by_7 : decode cX9_by 7 = .ok (.iload_n 1, 1) := by decide +kernel
theorem dX9_by_8 : decode cX9_by 8 = .ok (.i2l, 1) := by decide +kernel
theorem dX9_by_9 : decode cX9_by 9 = .ok (.lconst 0, 1) := by decide +kernel
theorem dX9_by_10 : decode cX9_by 10 = .ok (.ldc2_w 90, 3) := by decide +kernel
theorem dX9_by_13 : decode cX9_by 13 = .ok (.invokestatic 76, 3) := by decide +kernel
theorem dX9_by_16 : decode cX9_by 16 = .ok (.ifCond .eq 11, 3) := by decide +kernel
theorem dX9_by_19 : decode cX9_by 19 = .ok (.aload_n 0, 1) := by decide +kernel
theorem dX9_by_20 : decode cX9_by 20 = .ok (.iload_n 1, 1) := by decide +kernel
theorem dX9_by_21 : decode cX9_by 21 = .ok (.invokevirtual 452, 3) := by decide +kernel
theorem dX9_by_24 : decode cX9_by 24 = .ok (.goto 5, 3) := by decide +kernel
theorem dX9_by_27 : decode cX9_by 27 = .ok (.bipush (-2), 2) := by decide +kernel
theorem dX9_by_29 : decode cX9_by 29 = .ok (.ireturn, 1) := by decide +kernel
theorem dX9_calm_0 : decode cX9_calm 0 = .ok (.aload_n 0, 1) := by decide +kernel
theorem dX9_calm_1 : decode cX9_calm 1 = .ok (.invokevirtual 318, 3) := by decide +kernel
theorem dX9_calm_4 : decode cX9_calm 4 = .ok (.ifCond .eq 12, 3) := by decide +kernel
theorem dX9_calm_7 : decode cX9_calm 7 = .ok (.aload_n 0, 1) := by decide +kernel
theorem dX9_calm_8 : decode cX9_calm 8 = .ok (.iload_n 1, 1) := by decide +kernel
theorem dX9_calm_9 : decode cX9_calm 9 = .ok (.i2l, 1) := by decide +kernel
theorem dX9_calm_10 : decode cX9_calm 10 = .ok (.invokevirtual 314, 3) := by decide +kernel
theorem dX9_calm_13 : decode cX9_calm 13 = .ok (.ifCond .ne 6, 3) := by decide +kernel
theorem dX9_calm_16 : decode cX9_calm 16 = .ok (.bipush (-2), 2) := by decide +kernel
theorem dX9_calm_18 : decode cX9_calm 18 = .ok (.ireturn, 1) := by decide +kernel
theorem dX9_calm_19 : decode cX9_calm 19 = .ok (.aload_n 0, 1) := by decide +kernel
theorem dX9_calm_20 : decode cX9_calm 20 = .ok (.getfield 37, 3) := by decide +kernel
theorem dX9_calm_23 : decode cX9_calm 23 = .ok (.iload_n 1, 1) := by decide +kernel
theorem dX9_calm_24 : decode cX9_calm 24 = .ok (.baload, 1) := by decide +kernel
theorem dX9_calm_25 : decode cX9_calm 25 = .ok (.ifCond .ne 5, 3) := by decide +kernel
theorem dX9_calm_28 : decode cX9_calm 28 = .ok (.iconst (-1), 1) := by decide +kernel
theorem dX9_calm_29 : decode cX9_calm 29 = .ok (.ireturn, 1) := by decide +kernel
theorem dX9_calm_30 : decode cX9_calm 30 = .ok (.iconst 3, 1) := by decide +kernel
theorem dX9_calm_31 : decode cX9_calm 31 = .ok (.istore_n 2, 1) := by decide +kernel
theorem dX9_calm_32 : decode cX9_calm 32 = .ok (.iload_n 2, 1) := by decide +kernel
theorem dX9_calm_33 : decode cX9_calm 33 = .ok (.ifCond .lt 18, 3) := by decide +kernel
theorem dX9_calm_36 : decode cX9_calm 36 = .ok (.aload_n 0, 1) := by decide +kernel
theorem dX9_calm_37 : decode cX9_calm 37 = .ok (.iload_n 1, 1) := by decide +kernel
theorem dX9_calm_38 : decode cX9_calm 38 = .ok (.iload_n 2, 1) := by decide +kernel
theorem dX9_calm_39 : decode cX9_calm 39 = .ok (.invokevirtual 396, 3) := by decide +kernel
theorem dX9_calm_42 : decode cX9_calm 42 = .ok (.ifCond .le 9, 3) := by decide +kernel
theorem dX9_calm_45 : decode cX9_calm 45 = .ok (.iinc 2 (-1), 3) := by decide +kernel
theorem dX9_calm_48 : decode cX9_calm 48 = .ok (.goto (-16), 3) := by decide +kernel
theorem dX9_calm_51 : decode cX9_calm 51 = .ok (.iload_n 2, 1) := by decide +kernel
theorem dX9_calm_52 : decode cX9_calm 52 = .ok (.ireturn, 1) := by decide +kernel
theorem dX9_culprit_0 : decode cX9_culprit 0 = .ok (.aload_n 0, 1) := by decide +kernel
theorem dX9_culprit_1 : decode cX9_culprit 1 = .ok (.iload_n 1, 1) := by decide +kernel
theorem dX9_culprit_2 : decode cX9_culprit 2 = .ok (.invokevirtual 399, 3) := by decide +kernel
theorem dX9_culprit_5 : decode cX9_culprit 5 = .ok (.ifCond .ne 6, 3) := by decide +kernel
theorem dX9_culprit_8 : decode cX9_culprit 8 = .ok (.bipush (-2), 2) := by decide +kernel
theorem dX9_culprit_10 : decode cX9_culprit 10 = .ok (.ireturn, 1) := by decide +kernel
theorem dX9_culprit_11 : decode cX9_culprit 11 = .ok (.aload_n 0, 1) := by decide +kernel
theorem dX9_culprit_12 : decode cX9_culprit 12 = .ok (.getfield 367, 3) := by decide +kernel
theorem dX9_culprit_15 : decode cX9_culprit 15 = .ok (.ifCond .ne 7, 3) := by decide +kernel
theorem dX9_culprit_18 : decode cX9_culprit 18 = .ok (.iconst (-1), 1) := by decide +kernel
theorem dX9_culprit_19 : decode cX9_culprit 19 = .ok (.goto 23, 3) := by decide +kernel
theorem dX9_culprit_22 : decode cX9_culprit 22 = .ok (.aload_n 0, 1) := by decide +kernel
theorem dX9_culprit_23 : decode cX9_culprit 23 = .ok (.aload_n 0, 1) := by decide +kernel
theorem dX9_culprit_24 : decode cX9_culprit 24 = .ok (.aload_n 0, 1) := by decide +kernel
theorem dX9_culprit_25 : decode cX9_culprit 25 = .ok (.getfield 373, 3) := by decide +kernel
theorem dX9_culprit_28 : decode cX9_culprit 28 = .ok (.aload_n 0, 1) := by decide +kernel
theorem dX9_culprit_29 : decode cX9_culprit 29 = .ok (.getfield 376, 3) := by decide +kernel
theorem dX9_culprit_32 : decode cX9_culprit 32 = .ok (.aload_n 0, 1) := by decide +kernel
theorem dX9_culprit_33 : decode cX9_culprit 33 = .ok (.getfield 379, 3) := by decide +kernel
theorem dX9_culprit_36 : decode cX9_culprit 36 = .ok (.invokevirtual 344, 3) := by decide +kernel
theorem dX9_culprit_39 : decode cX9_culprit 39 = .ok (.invokevirtual 302, 3) := by decide +kernel
theorem dX9_culprit_42 : decode cX9_culprit 42 = .ok (.ireturn, 1) := by decide +kernel
theorem dX9_cure_0 : decode cX9_cure 0 = .ok (.aload_n 0, 1) := by decide +kernel
theorem dX9_cure_1 : decode cX9_cure 1 = .ok (.invokevirtual 318, 3) := by decide +kernel
theorem dX9_cure_4 : decode cX9_cure 4 = .ok (.ifCond .ne 6, 3) := by decide +kernel
theorem dX9_cure_7 : decode cX9_cure 7 = .ok (.bipush (-2), 2) := by decide +kernel
theorem dX9_cure_9 : decode cX9_cure 9 = .ok (.ireturn, 1) := by decide +kernel
theorem dX9_cure_10 : decode cX9_cure 10 = .ok (.aload_n 0, 1) := by decide +kernel
theorem dX9_cure_11 : decode cX9_cure 11 = .ok (.iconst 1, 1) := by decide +kernel
theorem dX9_cure_12 : decode cX9_cure 12 = .ok (.invokevirtual 393, 3) := by decide +kernel
theorem dX9_cure_15 : decode cX9_cure 15 = .ok (.istore_n 1, 1) := by decide +kernel
theorem dX9_cure_16 : decode cX9_cure 16 = .ok (.iconst (-1), 1) := by decide +kernel
theorem dX9_cure_17 : decode cX9_cure 17 = .ok (.istore_n 2, 1) := by decide +kernel
theorem dX9_cure_18 : decode cX9_cure 18 = .ok (.iconst 0, 1) := by decide +kernel
theorem dX9_cure_19 : decode cX9_cure 19 = .ok (.istore_n 3, 1) := by decide +kernel
theorem dX9_cure_20 : decode cX9_cure 20 = .ok (.iload_n 3, 1) := by decide +kernel
theorem dX9_cure_21 : decode cX9_cure 21 = .ok (.aload_n 0, 1) := by decide +kernel
theorem dX9_cure_22 : decode cX9_cure 22 = .ok (.invokevirtual 87, 3) := by decide +kernel
theorem dX9_cure_25 : decode cX9_cure 25 = .ok (.if_icmp .ge 75, 3) := by decide +kernel
theorem dX9_cure_28 : decode cX9_cure 28 = .ok (.aload_n 0, 1) := by decide +kernel
theorem dX9_cure_29 : decode cX9_cure 29 = .ok (.getfield 34, 3) := by decide +kernel
theorem dX9_cure_32 : decode cX9_cure 32 = .ok (.iload_n 3, 1) := by decide +kernel
theorem dX9_cure_33 : decode cX9_cure 33 = .ok (.iaload, 1) := by decide +kernel
theorem dX9_cure_34 : decode cX9_cure 34 = .ok (.istore 4, 2) := by decide +kernel
theorem dX9_cure_36 : decode cX9_cure 36 = .ok (.iconst 0, 1) := by decide +kernel
theorem dX9_cure_37 : decode cX9_cure 37 = .ok (.istore 5, 2) := by decide +kernel
theorem dX9_cure_39 : decode cX9_cure 39 = .ok (.iload 5, 2) := by decide +kernel
theorem dX9_cure_41 : decode cX9_cure 41 = .ok (.iconst 4, 1) := by decide +kernel
theorem dX9_cure_42 : decode cX9_cure 42 = .ok (.if_icmp .ge 44, 3) := by decide +kernel
theorem dX9_cure_45 : decode cX9_cure 45 = .ok (.aload_n 0, 1) := by decide +kernel
theorem dX9_cure_46 : decode cX9_cure 46 = .ok (.getfield 34, 3) := by decide +kernel
theorem dX9_cure_49 : decode cX9_cure 49 = .ok (.iload_n 3, 1) := by decide +kernel
theorem dX9_cure_50 : decode cX9_cure 50 = .ok (.iload 5, 2) := by decide +kernel
theorem dX9_cure_52 : decode cX9_cure 52 = .ok (.iastore, 1) := by decide +kernel
theorem dX9_cure_53 : decode cX9_cure 53 = .ok (.aload_n 0, 1) := by decide +kernel
theorem dX9_cure_54 : decode cX9_cure 54 = .ok (.iconst 1, 1) := by decide +kernel
theorem dX9_cure_55 : decode cX9_cure 55 = .ok (.invokevirtual 393, 3) := by decide +kernel
theorem dX9_cure_58 : decode cX9_cure 58 = .ok (.istore 6, 2) := by decide +kernel
theorem dX9_cure_60 : decode cX9_cure 60 = .ok (.iload 6, 2) := by decide +kernel
theorem dX9_cure_62 : decode cX9_cure 62 = .ok (.iload_n 1, 1) := by decide +kernel
theorem dX9_cure_63 : decode cX9_cure 63 = .ok (.if_icmp .lt 6, 3) := by decide +kernel
theorem dX9_cure_66 : decode cX9_cure 66 = .ok (.goto 14, 3) := by decide +kernel
theorem dX9_cure_69 : decode cX9_cure 69 = .ok (.iload 6, 2) := by decide +kernel
theorem dX9_cure_71 : decode cX9_cure 71 = .ok (.istore_n 1, 1) := by decide +kernel
theorem dX9_cure_72 : decode cX9_cure 72 = .ok (.bipush 10, 2) := by decide +kernel
theorem dX9_cure_74 : decode cX9_cure 74 = .ok (.iload_n 3, 1) := by decide +kernel
theorem dX9_cure_75 : decode cX9_cure 75 = .ok (.imul, 1) := by decide +kernel
theorem dX9_cure_76 : decode cX9_cure 76 = .ok (.iload 5, 2) := by decide +kernel
theorem dX9_cure_78 : decode cX9_cure 78 = .ok (.iadd, 1) := by decide +kernel
theorem dX9_cure_79 : decode cX9_cure 79 = .ok (.istore_n 2, 1) := by decide +kernel
theorem dX9_cure_80 : decode cX9_cure 80 = .ok (.iinc 5 1, 3) := by decide +kernel
theorem dX9_cure_83 : decode cX9_cure 83 = .ok (.goto (-44), 3) := by decide +kernel
theorem dX9_cure_86 : decode cX9_cure 86 = .ok (.aload_n 0, 1) := by decide +kernel
theorem dX9_cure_87 : decode cX9_cure 87 = .ok (.getfield 34, 3) := by decide +kernel
theorem dX9_cure_90 : decode cX9_cure 90 = .ok (.iload_n 3, 1) := by decide +kernel
theorem dX9_cure_91 : decode cX9_cure 91 = .ok (.iload 4, 2) := by decide +kernel
theorem dX9_cure_93 : decode cX9_cure 93 = .ok (.iastore, 1) := by decide +kernel
theorem dX9_cure_94 : decode cX9_cure 94 = .ok (.iinc 3 1, 3) := by decide +kernel
theorem dX9_cure_97 : decode cX9_cure 97 = .ok (.goto (-77), 3) := by decide +kernel
theorem dX9_cure_100 : decode cX9_cure 100 = .ok (.iload_n 2, 1) := by decide +kernel
theorem dX9_cure_101 : decode cX9_cure 101 = .ok (.ireturn, 1) := by decide +kernel
theorem dX9_fewest_0 : decode cX9_fewest 0 = .ok (.aload_n 0, 1) := by decide +kernel
theorem dX9_fewest_1 : decode cX9_fewest 1 = .ok (.iload_n 1, 1) := by decide +kernel
theorem dX9_fewest_2 : decode cX9_fewest 2 = .ok (.invokevirtual 424, 3) := by decide +kernel
theorem dX9_fewest_5 : decode cX9_fewest 5 = .ok (.ifCond .ne 6, 3) := by decide +kernel
theorem dX9_fewest_8 : decode cX9_fewest 8 = .ok (.bipush (-2), 2) := by decide +kernel
theorem dX9_fewest_10 : decode cX9_fewest 10 = .ok (.ireturn, 1) := by decide +kernel
theorem dX9_fewest_11 : decode cX9_fewest 11 = .ok (.aload_n 0, 1) := by decide +kernel
theorem dX9_fewest_12 : decode cX9_fewest 12 = .ok (.getfield 409, 3) := by decide +kernel
theorem dX9_fewest_15 : decode cX9_fewest 15 = .ok (.iconst (-1), 1) := by decide +kernel
theorem dX9_fewest_16 : decode cX9_fewest 16 = .ok (.if_icmp .ne 7, 3) := by decide +kernel
theorem dX9_fewest_19 : decode cX9_fewest 19 = .ok (.iconst (-1), 1) := by decide +kernel
theorem dX9_fewest_20 : decode cX9_fewest 20 = .ok (.goto 10, 3) := by decide +kernel
theorem dX9_fewest_23 : decode cX9_fewest 23 = .ok (.aload_n 0, 1) := by decide +kernel
theorem dX9_fewest_24 : decode cX9_fewest 24 = .ok (.getfield 409, 3) := by decide +kernel
theorem dX9_fewest_27 : decode cX9_fewest 27 = .ok (.invokestatic 418, 3) := by decide +kernel
theorem dX9_fewest_30 : decode cX9_fewest 30 = .ok (.ireturn, 1) := by decide +kernel
theorem dX9_findFrom_0 : decode cX9_findFrom 0 = .ok (.aload_n 0, 1) := by decide +kernel
theorem dX9_findFrom_1 : decode cX9_findFrom 1 = .ok (.iload_n 1, 1) := by decide +kernel
theorem dX9_findFrom_2 : decode cX9_findFrom 2 = .ok (.invokevirtual 351, 3) := by decide +kernel
theorem dX9_findFrom_5 : decode cX9_findFrom 5 = .ok (.iconst 0, 1) := by decide +kernel
theorem dX9_findFrom_6 : decode cX9_findFrom 6 = .ok (.istore_n 3, 1) := by decide +kernel
theorem dX9_findFrom_7 : decode cX9_findFrom 7 = .ok (.iload_n 3, 1) := by decide +kernel
theorem dX9_findFrom_8 : decode cX9_findFrom 8 = .ok (.aload_n 0, 1) := by decide +kernel
theorem dX9_findFrom_9 : decode cX9_findFrom 9 = .ok (.invokevirtual 96, 3) := by decide +kernel
theorem dX9_findFrom_12 : decode cX9_findFrom 12 = .ok (.if_icmp .ge 99, 3) := by decide +kernel
theorem dX9_findFrom_15 : decode cX9_findFrom 15 = .ok (.aload_n 0, 1) := by decide +kernel
theorem dX9_findFrom_16 : decode cX9_findFrom 16 = .ok (.getfield 43, 3) := by decide +kernel
theorem dX9_findFrom_19 : decode cX9_findFrom 19 = .ok (.iload_n 3, 1) := by decide +kernel
theorem dX9_findFrom_20 : decode cX9_findFrom 20 = .ok (.iaload, 1) := by decide +kernel
theorem dX9_findFrom_21 : decode cX9_findFrom 21 = .ok (.iload_n 2, 1) := by decide +kernel
theorem dX9_findFrom_22 : decode cX9_findFrom 22 = .ok (.if_icmp .le 6, 3) := by decide +kernel
theorem dX9_findFrom_25 : decode cX9_findFrom 25 = .ok (.goto 80, 3) := by decide +kernel
theorem dX9_findFrom_28 : decode cX9_findFrom 28 = .ok (.iload_n 3, 1) := by decide +kernel
theorem dX9_findFrom_29 : decode cX9_findFrom 29 = .ok (.istore 4, 2) := by decide +kernel
theorem dX9_findFrom_31 : decode cX9_findFrom 31 = .ok (.iload 4, 2) := by decide +kernel
theorem dX9_findFrom_33 : decode cX9_findFrom 33 = .ok (.aload_n 0, 1) := by decide +kernel
theorem dX9_findFrom_34 : decode cX9_findFrom 34 = .ok (.invokevirtual 96, 3) := by decide +kernel
theorem dX9_findFrom_37 : decode cX9_findFrom 37 = .ok (.if_icmp .ge 68, 3) := by decide +kernel
theorem dX9_findFrom_40 : decode cX9_findFrom 40 = .ok (.aload_n 0, 1) := by decide +kernel
theorem dX9_findFrom_41 : decode cX9_findFrom 41 = .ok (.getfield 43, 3) := by decide +kernel
theorem dX9_findFrom_44 : decode cX9_findFrom 44 = .ok (.iload 4, 2) := by decide +kernel
theorem dX9_findFrom_46 : decode cX9_findFrom 46 = .ok (.iaload, 1) := by decide +kernel
theorem dX9_findFrom_47 : decode cX9_findFrom 47 = .ok (.iload_n 2, 1) := by decide +kernel
theorem dX9_findFrom_48 : decode cX9_findFrom 48 = .ok (.if_icmp .gt 51, 3) := by decide +kernel
theorem dX9_findFrom_51 : decode cX9_findFrom 51 = .ok (.aload_n 0, 1) := by decide +kernel
theorem dX9_findFrom_52 : decode cX9_findFrom 52 = .ok (.getfield 46, 3) := by decide +kernel
theorem dX9_findFrom_55 : decode cX9_findFrom 55 = .ok (.iload_n 3, 1) := by decide +kernel
theorem dX9_findFrom_56 : decode cX9_findFrom 56 = .ok (.iaload, 1) := by decide +kernel
theorem dX9_findFrom_57 : decode cX9_findFrom 57 = .ok (.iload_n 2, 1) := by decide +kernel
theorem dX9_findFrom_58 : decode cX9_findFrom 58 = .ok (.if_icmp .le 14, 3) := by decide +kernel
theorem dX9_findFrom_61 : decode cX9_findFrom 61 = .ok (.aload_n 0, 1) := by decide +kernel
theorem dX9_findFrom_62 : decode cX9_findFrom 62 = .ok (.getfield 46, 3) := by decide +kernel
theorem dX9_findFrom_65 : decode cX9_findFrom 65 = .ok (.iload 4, 2) := by decide +kernel
theorem dX9_findFrom_67 : decode cX9_findFrom 67 = .ok (.iaload, 1) := by decide +kernel
theorem dX9_findFrom_68 : decode cX9_findFrom 68 = .ok (.iload_n 2, 1) := by decide +kernel
theorem dX9_findFrom_69 : decode cX9_findFrom 69 = .ok (.if_icmp .gt 30, 3) := by decide +kernel
theorem dX9_findFrom_72 : decode cX9_findFrom 72 = .ok (.aload_n 0, 1) := by decide +kernel
theorem dX9_findFrom_73 : decode cX9_findFrom 73 = .ok (.getfield 37, 3) := by decide +kernel
theorem dX9_findFrom_76 : decode cX9_findFrom 76 = .ok (.aload_n 0, 1) := by decide +kernel
theorem dX9_findFrom_77 : decode cX9_findFrom 77 = .ok (.iload_n 1, 1) := by decide +kernel
theorem dX9_findFrom_78 : decode cX9_findFrom 78 = .ok (.iload_n 3, 1) := by decide +kernel
theorem dX9_findFrom_79 : decode cX9_findFrom 79 = .ok (.iload 4, 2) := by decide +kernel
theorem dX9_findFrom_81 : decode cX9_findFrom 81 = .ok (.invokevirtual 344, 3) := by decide +kernel
theorem dX9_findFrom_84 : decode cX9_findFrom 84 = .ok (.baload, 1) := by decide +kernel
theorem dX9_findFrom_85 : decode cX9_findFrom 85 = .ok (.ifCond .eq 6, 3) := by decide +kernel
theorem dX9_findFrom_88 : decode cX9_findFrom 88 = .ok (.goto 11, 3) := by decide +kernel
theorem dX9_findFrom_91 : decode cX9_findFrom 91 = .ok (.aload_n 0, 1) := by decide +kernel
theorem dX9_findFrom_92 : decode cX9_findFrom 92 = .ok (.iload_n 1, 1) := by decide +kernel
theorem dX9_findFrom_93 : decode cX9_findFrom 93 = .ok (.iload_n 3, 1) := by decide +kernel
theorem dX9_findFrom_94 : decode cX9_findFrom 94 = .ok (.iload 4, 2) := by decide +kernel
theorem dX9_findFrom_96 : decode cX9_findFrom 96 = .ok (.invokevirtual 382, 3) := by decide +kernel
theorem dX9_findFrom_99 : decode cX9_findFrom 99 = .ok (.iinc 4 1, 3) := by decide +kernel
theorem dX9_findFrom_102 : decode cX9_findFrom 102 = .ok (.goto (-71), 3) := by decide +kernel
theorem dX9_findFrom_105 : decode cX9_findFrom 105 = .ok (.iinc 3 1, 3) := by decide +kernel
theorem dX9_findFrom_108 : decode cX9_findFrom 108 = .ok (.goto (-101), 3) := by decide +kernel
theorem dX9_findFrom_111 : decode cX9_findFrom 111 = .ok (.return_, 1) := by decide +kernel
theorem dX9_findLocks_0 : decode cX9_findLocks 0 = .ok (.aload_n 0, 1) := by decide +kernel
theorem dX9_findLocks_1 : decode cX9_findLocks 1 = .ok (.iconst (-1), 1) := by decide +kernel
theorem dX9_findLocks_2 : decode cX9_findLocks 2 = .ok (.putfield 409, 3) := by decide +kernel
theorem dX9_findLocks_5 : decode cX9_findLocks 5 = .ok (.aload_n 0, 1) := by decide +kernel
theorem dX9_findLocks_6 : decode cX9_findLocks 6 = .ok (.aload_n 0, 1) := by decide +kernel
theorem dX9_findLocks_7 : decode cX9_findLocks 7 = .ok (.invokevirtual 412, 3) := by decide +kernel
theorem dX9_findLocks_10 : decode cX9_findLocks 10 = .ok (.putfield 415, 3) := by decide +kernel
theorem dX9_findLocks_13 : decode cX9_findLocks 13 = .ok (.iconst 0, 1) := by decide +kernel
theorem dX9_findLocks_14 : decode cX9_findLocks 14 = .ok (.istore_n 2, 1) := by decide +kernel
theorem dX9_findLocks_15 : decode cX9_findLocks 15 = .ok (.iload_n 2, 1) := by decide +kernel
theorem dX9_findLocks_16 : decode cX9_findLocks 16 = .ok (.aload_n 0, 1) := by decide +kernel
theorem dX9_findLocks_17 : decode cX9_findLocks 17 = .ok (.invokevirtual 412, 3) := by decide +kernel
theorem dX9_findLocks_20 : decode cX9_findLocks 20 = .ok (.if_icmp .gt 62, 3) := by decide +kernel
theorem dX9_findLocks_23 : decode cX9_findLocks 23 = .ok (.aload_n 0, 1) := by decide +kernel
theorem dX9_findLocks_24 : decode cX9_findLocks 24 = .ok (.aload_n 0, 1) := by decide +kernel
theorem dX9_findLocks_25 : decode cX9_findLocks 25 = .ok (.getfield 282, 3) := by decide +kernel
theorem dX9_findLocks_28 : decode cX9_findLocks 28 = .ok (.iload_n 2, 1) := by decide +kernel
theorem dX9_findLocks_29 : decode cX9_findLocks 29 = .ok (.iload_n 1, 1) := by decide +kernel
theorem dX9_findLocks_30 : decode cX9_findLocks 30 = .ok (.invokevirtual 405, 3) := by decide +kernel
theorem dX9_findLocks_33 : decode cX9_findLocks 33 = .ok (.ifCond .ne 6, 3) := by decide +kernel
theorem dX9_findLocks_36 : decode cX9_findLocks 36 = .ok (.goto 40, 3) := by decide +kernel
theorem dX9_findLocks_39 : decode cX9_findLocks 39 = .ok (.aload_n 0, 1) := by decide +kernel
theorem dX9_findLocks_40 : decode cX9_findLocks 40 = .ok (.dup, 1) := by decide +kernel
theorem dX9_findLocks_41 : decode cX9_findLocks 41 = .ok (.getfield 415, 3) := by decide +kernel
theorem dX9_findLocks_44 : decode cX9_findLocks 44 = .ok (.iload_n 2, 1) := by decide +kernel
theorem dX9_findLocks_45 : decode cX9_findLocks 45 = .ok (.iand, 1) := by decide +kernel
theorem dX9_findLocks_46 : decode cX9_findLocks 46 = .ok (.putfield 415, 3) := by decide +kernel
theorem dX9_findLocks_49 : decode cX9_findLocks 49 = .ok (.aload_n 0, 1) := by decide +kernel
theorem dX9_findLocks_50 : decode cX9_findLocks 50 = .ok (.getfield 409, 3) := by decide +kernel
theorem dX9_findLocks_53 : decode cX9_findLocks 53 = .ok (.iconst (-1), 1) := by decide +kernel
theorem dX9_findLocks_54 : decode cX9_findLocks 54 = .ok (.if_icmp .eq 17, 3) := by decide +kernel
theorem dX9_findLocks_57 : decode cX9_findLocks 57 = .ok (.iload_n 2, 1) := by decide +kernel
theorem dX9_findLocks_58 : decode cX9_findLocks 58 = .ok (.invokestatic 418, 3) := by decide +kernel
theorem dX9_findLocks_61 : decode cX9_findLocks 61 = .ok (.aload_n 0, 1) := by decide +kernel
theorem dX9_findLocks_62 : decode cX9_findLocks 62 = .ok (.getfield 409, 3) := by decide +kernel
theorem dX9_findLocks_65 : decode cX9_findLocks 65 = .ok (.invokestatic 418, 3) := by decide +kernel
theorem dX9_findLocks_68 : decode cX9_findLocks 68 = .ok (.if_icmp .ge 8, 3) := by decide +kernel
theorem dX9_findLocks_71 : decode cX9_findLocks 71 = .ok (.aload_n 0, 1) := by decide +kernel
theorem dX9_findLocks_72 : decode cX9_findLocks 72 = .ok (.iload_n 2, 1) := by decide +kernel
theorem dX9_findLocks_73 : decode cX9_findLocks 73 = .ok (.putfield 409, 3) := by decide +kernel
theorem dX9_findLocks_76 : decode cX9_findLocks 76 = .ok (.iinc 2 1, 3) := by decide +kernel
theorem dX9_findLocks_79 : decode cX9_findLocks 79 = .ok (.goto (-64), 3) := by decide +kernel
theorem dX9_findLocks_82 : decode cX9_findLocks 82 = .ok (.return_, 1) := by decide +kernel
theorem dX9_fine_0 : decode cX9_fine 0 = .ok (.aload_n 0, 1) := by decide +kernel
theorem dX9_fine_1 : decode cX9_fine 1 = .ok (.invokevirtual 318, 3) := by decide +kernel
theorem dX9_fine_4 : decode cX9_fine 4 = .ok (.ifCond .eq 10, 3) := by decide +kernel
theorem dX9_fine_7 : decode cX9_fine 7 = .ok (.iload_n 1, 1) := by decide +kernel
theorem dX9_fine_8 : decode cX9_fine 8 = .ok (.invokestatic 357, 3) := by decide +kernel
theorem dX9_fine_11 : decode cX9_fine 11 = .ok (.ifCond .ne 6, 3) := by decide +kernel
theorem dX9_fine_14 : decode cX9_fine 14 = .ok (.bipush (-2), 2) := by decide +kernel
theorem dX9_fine_16 : decode cX9_fine 16 = .ok (.ireturn, 1) := by decide +kernel
theorem dX9_fine_17 : decode cX9_fine 17 = .ok (.iconst 0, 1) := by decide +kernel
theorem dX9_fine_18 : decode cX9_fine 18 = .ok (.istore_n 2, 1) := by decide +kernel
theorem dX9_fine_19 : decode cX9_fine 19 = .ok (.iconst 0, 1) := by decide +kernel
theorem dX9_fine_20 : decode cX9_fine 20 = .ok (.istore_n 3, 1) := by decide +kernel
theorem dX9_fine_21 : decode cX9_fine 21 = .ok (.iload_n 3, 1) := by decide +kernel
theorem dX9_fine_22 : decode cX9_fine 22 = .ok (.aload_n 0, 1) := by decide +kernel
theorem dX9_fine_23 : decode cX9_fine 23 = .ok (.invokevirtual 80, 3) := by decide +kernel
theorem dX9_fine_26 : decode cX9_fine 26 = .ok (.if_icmp .ge 41, 3) := by decide +kernel
theorem dX9_fine_29 : decode cX9_fine 29 = .ok (.iload_n 2, 1) := by decide +kernel
theorem dX9_fine_30 : decode cX9_fine 30 = .ok (.aload_n 0, 1) := by decide +kernel
theorem dX9_fine_31 : decode cX9_fine 31 = .ok (.aload_n 0, 1) := by decide +kernel
theorem dX9_fine_32 : decode cX9_fine 32 = .ok (.invokevirtual 402, 3) := by decide +kernel
theorem dX9_fine_35 : decode cX9_fine 35 = .ok (.iconst 1, 1) := by decide +kernel
theorem dX9_fine_36 : decode cX9_fine 36 = .ok (.iload_n 3, 1) := by decide +kernel
theorem dX9_fine_37 : decode cX9_fine 37 = .ok (.ishl, 1) := by decide +kernel
theorem dX9_fine_38 : decode cX9_fine 38 = .ok (.iconst (-1), 1) := by decide +kernel
theorem dX9_fine_39 : decode cX9_fine 39 = .ok (.ixor, 1) := by decide +kernel
theorem dX9_fine_40 : decode cX9_fine 40 = .ok (.iand, 1) := by decide +kernel
theorem dX9_fine_41 : decode cX9_fine 41 = .ok (.aload_n 0, 1) := by decide +kernel
theorem dX9_fine_42 : decode cX9_fine 42 = .ok (.getfield 279, 3) := by decide +kernel
theorem dX9_fine_45 : decode cX9_fine 45 = .ok (.iload_n 1, 1) := by decide +kernel
theorem dX9_fine_46 : decode cX9_fine 46 = .ok (.invokevirtual 405, 3) := by decide +kernel
theorem dX9_fine_49 : decode cX9_fine 49 = .ok (.ifCond .eq 9, 3) := by decide +kernel
theorem dX9_fine_52 : decode cX9_fine 52 = .ok (.iconst 1, 1) := by decide +kernel
theorem dX9_fine_53 : decode cX9_fine 53 = .ok (.iload_n 3, 1) := by decide +kernel
theorem dX9_fine_54 : decode cX9_fine 54 = .ok (.ishl, 1) := by decide +kernel
theorem dX9_fine_55 : decode cX9_fine 55 = .ok (.goto 4, 3) := by decide +kernel
theorem dX9_fine_58 : decode cX9_fine 58 = .ok (.iconst 0, 1) := by decide +kernel
theorem dX9_fine_59 : decode cX9_fine 59 = .ok (.ior, 1) := by decide +kernel
theorem dX9_fine_60 : decode cX9_fine 60 = .ok (.istore_n 2, 1) := by decide +kernel
theorem dX9_fine_61 : decode cX9_fine 61 = .ok (.iinc 3 1, 3) := by decide +kernel
theorem dX9_fine_64 : decode cX9_fine 64 = .ok (.goto (-43), 3) := by decide +kernel
theorem dX9_fine_67 : decode cX9_fine 67 = .ok (.iload_n 2, 1) := by decide +kernel
theorem dX9_fine_68 : decode cX9_fine 68 = .ok (.ireturn, 1) := by decide +kernel
theorem dX9_fits_0 : decode cX9_fits 0 = .ok (.aload_n 0, 1) := by decide +kernel
theorem dX9_fits_1 : decode cX9_fits 1 = .ok (.iload_n 1, 1) := by decide +kernel
theorem dX9_fits_2 : decode cX9_fits 2 = .ok (.invokevirtual 449, 3) := by decide +kernel
theorem dX9_fits_5 : decode cX9_fits 5 = .ok (.istore_n 2, 1) := by decide +kernel
theorem dX9_fits_6 : decode cX9_fits 6 = .ok (.iload_n 2, 1) := by decide +kernel
theorem dX9_fits_7 : decode cX9_fits 7 = .ok (.ifCond .ge 7, 3) := by decide +kernel
theorem dX9_fits_10 : decode cX9_fits 10 = .ok (.iload_n 2, 1) := by decide +kernel
theorem dX9_fits_11 : decode cX9_fits 11 = .ok (.goto 7, 3) := by decide +kernel
theorem dX9_fits_14 : decode cX9_fits 14 = .ok (.aload_n 0, 1) := by decide +kernel
theorem dX9_fits_15 : decode cX9_fits 15 = .ok (.getfield 437, 3) := by decide +kernel
theorem dX9_fits_18 : decode cX9_fits 18 = .ok (.ireturn, 1) := by decide +kernel
theorem dX9_hits_0 : decode cX9_hits 0 = .ok (.aload_n 0, 1) := by decide +kernel
theorem dX9_hits_1 : decode cX9_hits 1 = .ok (.iload_n 2, 1) := by decide +kernel
theorem dX9_hits_2 : decode cX9_hits 2 = .ok (.invokevirtual 399, 3) := by decide +kernel
theorem dX9_hits_5 : decode cX9_hits 5 = .ok (.ifCond .eq 20, 3) := by decide +kernel
theorem dX9_hits_8 : decode cX9_hits 8 = .ok (.aload_n 0, 1) := by decide +kernel
theorem dX9_hits_9 : decode cX9_hits 9 = .ok (.iload_n 1, 1) := by decide +kernel
theorem dX9_hits_10 : decode cX9_hits 10 = .ok (.invokevirtual 256, 3) := by decide +kernel
theorem dX9_hits_13 : decode cX9_hits 13 = .ok (.ifCond .eq 12, 3) := by decide +kernel
theorem dX9_hits_16 : decode cX9_hits 16 = .ok (.aload_n 0, 1) := by decide +kernel
theorem dX9_hits_17 : decode cX9_hits 17 = .ok (.getfield 52, 3) := by decide +kernel
theorem dX9_hits_20 : decode cX9_hits 20 = .ok (.iload_n 1, 1) := by decide +kernel
theorem dX9_hits_21 : decode cX9_hits 21 = .ok (.iaload, 1) := by decide +kernel
theorem dX9_hits_22 : decode cX9_hits 22 = .ok (.goto 5, 3) := by decide +kernel
theorem dX9_hits_25 : decode cX9_hits 25 = .ok (.bipush (-2), 2) := by decide +kernel
theorem dX9_hits_27 : decode cX9_hits 27 = .ok (.ireturn, 1) := by decide +kernel
theorem dX9_hot_0 : decode cX9_hot 0 = .ok (.aload_n 0, 1) := by decide +kernel
theorem dX9_hot_1 : decode cX9_hot 1 = .ok (.invokevirtual 318, 3) := by decide +kernel
theorem dX9_hot_4 : decode cX9_hot 4 = .ok (.ifCond .eq 10, 3) := by decide +kernel
theorem dX9_hot_7 : decode cX9_hot 7 = .ok (.iload_n 1, 1) := by decide +kernel
theorem dX9_hot_8 : decode cX9_hot 8 = .ok (.invokestatic 357, 3) := by decide +kernel
theorem dX9_hot_11 : decode cX9_hot 11 = .ok (.ifCond .ne 6, 3) := by decide +kernel
theorem dX9_hot_14 : decode cX9_hot 14 = .ok (.bipush (-2), 2) := by decide +kernel
theorem dX9_hot_16 : decode cX9_hot 16 = .ok (.ireturn, 1) := by decide +kernel
theorem dX9_hot_17 : decode cX9_hot 17 = .ok (.iconst (-1), 1) := by decide +kernel
theorem dX9_hot_18 : decode cX9_hot 18 = .ok (.istore_n 2, 1) := by decide +kernel
theorem dX9_hot_19 : decode cX9_hot 19 = .ok (.iconst 0, 1) := by decide +kernel
theorem dX9_hot_20 : decode cX9_hot 20 = .ok (.istore_n 3, 1) := by decide +kernel
theorem dX9_hot_21 : decode cX9_hot 21 = .ok (.iconst 0, 1) := by decide +kernel
theorem dX9_hot_22 : decode cX9_hot 22 = .ok (.istore 4, 2) := by decide +kernel
theorem dX9_hot_24 : decode cX9_hot 24 = .ok (.iload 4, 2) := by decide +kernel
theorem dX9_hot_26 : decode cX9_hot 26 = .ok (.aload_n 0, 1) := by decide +kernel
theorem dX9_hot_27 : decode cX9_hot 27 = .ok (.invokevirtual 96, 3) := by decide +kernel
theorem dX9_hot_30 : decode cX9_hot 30 = .ok (.if_icmp .ge 31, 3) := by decide +kernel
theorem dX9_hot_33 : decode cX9_hot 33 = .ok (.aload_n 0, 1) := by decide +kernel
theorem dX9_hot_34 : decode cX9_hot 34 = .ok (.iload 4, 2) := by decide +kernel
theorem dX9_hot_36 : decode cX9_hot 36 = .ok (.iload_n 1, 1) := by decide +kernel
theorem dX9_hot_37 : decode cX9_hot 37 = .ok (.invokevirtual 396, 3) := by decide +kernel
theorem dX9_hot_40 : decode cX9_hot 40 = .ok (.iload_n 3, 1) := by decide +kernel
theorem dX9_hot_41 : decode cX9_hot 41 = .ok (.if_icmp .gt 6, 3) := by decide +kernel
theorem dX9_hot_44 : decode cX9_hot 44 = .ok (.goto 11, 3) := by decide +kernel
theorem dX9_hot_47 : decode cX9_hot 47 = .ok (.aload_n 0, 1) := by decide +kernel
theorem dX9_hot_48 : decode cX9_hot 48 = .ok (.getfield 367, 3) := by decide +kernel
theorem dX9_hot_51 : decode cX9_hot 51 = .ok (.istore_n 3, 1) := by decide +kernel
theorem dX9_hot_52 : decode cX9_hot 52 = .ok (.iload 4, 2) := by decide +kernel
theorem dX9_hot_54 : decode cX9_hot 54 = .ok (.istore_n 2, 1) := by decide +kernel
theorem dX9_hot_55 : decode cX9_hot 55 = .ok (.iinc 4 1, 3) := by decide +kernel
theorem dX9_hot_58 : decode cX9_hot 58 = .ok (.goto (-34), 3) := by decide +kernel
theorem dX9_hot_61 : decode cX9_hot 61 = .ok (.iload_n 2, 1) := by decide +kernel
theorem dX9_hot_62 : decode cX9_hot 62 = .ok (.ireturn, 1) := by decide +kernel
theorem dX9_isSafeBy_0 : decode cX9_isSafeBy 0 = .ok (.aload_n 0, 1) := by decide +kernel
theorem dX9_isSafeBy_1 : decode cX9_isSafeBy 1 = .ok (.iload_n 1, 1) := by decide +kernel
theorem dX9_isSafeBy_2 : decode cX9_isSafeBy 2 = .ok (.putfield 282, 3) := by decide +kernel
theorem dX9_isSafeBy_5 : decode cX9_isSafeBy 5 = .ok (.aload_n 0, 1) := by decide +kernel
theorem dX9_isSafeBy_6 : decode cX9_isSafeBy 6 = .ok (.iload_n 2, 1) := by decide +kernel
theorem dX9_isSafeBy_7 : decode cX9_isSafeBy 7 = .ok (.putfield 279, 3) := by decide +kernel
theorem dX9_isSafeBy_10 : decode cX9_isSafeBy 10 = .ok (.aload_n 0, 1) := by decide +kernel
theorem dX9_isSafeBy_11 : decode cX9_isSafeBy 11 = .ok (.invokevirtual 311, 3) := by decide +kernel
theorem dX9_isSafeBy_14 : decode cX9_isSafeBy 14 = .ok (.aload_n 0, 1) := by decide +kernel
theorem dX9_isSafeBy_15 : decode cX9_isSafeBy 15 = .ok (.iload_n 3, 1) := by decide +kernel
theorem dX9_isSafeBy_16 : decode cX9_isSafeBy 16 = .ok (.invokevirtual 393, 3) := by decide +kernel
theorem dX9_isSafeBy_19 : decode cX9_isSafeBy 19 = .ok (.ifCond .ne 7, 3) := by decide +kernel
theorem dX9_isSafeBy_22 : decode cX9_isSafeBy 22 = .ok (.iconst 1, 1) := by decide +kernel
theorem dX9_isSafeBy_23 : decode cX9_isSafeBy 23 = .ok (.goto 4, 3) := by decide +kernel
theorem dX9_isSafeBy_26 : decode cX9_isSafeBy 26 = .ok (.iconst 0, 1) := by decide +kernel
theorem dX9_isSafeBy_27 : decode cX9_isSafeBy 27 = .ok (.ireturn, 1) := by decide +kernel
theorem dX9_keepBreak_0 : decode cX9_keepBreak 0 = .ok (.aload_n 0, 1) := by decide +kernel
theorem dX9_keepBreak_1 : decode cX9_keepBreak 1 = .ok (.dup, 1) := by decide +kernel
theorem dX9_keepBreak_2 : decode cX9_keepBreak 2 = .ok (.getfield 367, 3) := by decide +kernel
theorem dX9_keepBreak_5 : decode cX9_keepBreak 5 = .ok (.iconst 1, 1) := by decide +kernel
theorem dX9_keepBreak_6 : decode cX9_keepBreak 6 = .ok (.iadd, 1) := by decide +kernel
theorem dX9_keepBreak_7 : decode cX9_keepBreak 7 = .ok (.putfield 367, 3) := by decide +kernel
theorem dX9_keepBreak_10 : decode cX9_keepBreak 10 = .ok (.aload_n 0, 1) := by decide +kernel
theorem dX9_keepBreak_11 : decode cX9_keepBreak 11 = .ok (.getfield 49, 3) := by decide +kernel
theorem dX9_keepBreak_14 : decode cX9_keepBreak 14 = .ok (.bipush 64, 2) := by decide +kernel
theorem dX9_keepBreak_16 : decode cX9_keepBreak 16 = .ok (.iload_n 2, 1) := by decide +kernel
theorem dX9_keepBreak_17 : decode cX9_keepBreak 17 = .ok (.imul, 1) := by decide +kernel
theorem dX9_keepBreak_18 : decode cX9_keepBreak 18 = .ok (.iload_n 3, 1) := by decide +kernel
theorem dX9_keepBreak_19 : decode cX9_keepBreak 19 = .ok (.iadd, 1) := by decide +kernel
theorem dX9_keepBreak_20 : decode cX9_keepBreak 20 = .ok (.iconst 1, 1) := by decide +kernel
theorem dX9_keepBreak_21 : decode cX9_keepBreak 21 = .ok (.bastore, 1) := by decide +kernel
theorem dX9_keepBreak_22 : decode cX9_keepBreak 22 = .ok (.aload_n 0, 1) := by decide +kernel
theorem dX9_keepBreak_23 : decode cX9_keepBreak 23 = .ok (.iload_n 1, 1) := by decide +kernel
theorem dX9_keepBreak_24 : decode cX9_keepBreak 24 = .ok (.iload_n 2, 1) := by decide +kernel
theorem dX9_keepBreak_25 : decode cX9_keepBreak 25 = .ok (.iload_n 3, 1) := by decide +kernel
theorem dX9_keepBreak_26 : decode cX9_keepBreak 26 = .ok (.invokevirtual 344, 3) := by decide +kernel
theorem dX9_keepBreak_29 : decode cX9_keepBreak 29 = .ok (.istore 4, 2) := by decide +kernel
theorem dX9_keepBreak_31 : decode cX9_keepBreak 31 = .ok (.iconst 0, 1) := by decide +kernel
theorem dX9_keepBreak_32 : decode cX9_keepBreak 32 = .ok (.istore 5, 2) := by decide +kernel
theorem dX9_keepBreak_34 : decode cX9_keepBreak 34 = .ok (.iload 5, 2) := by decide +kernel
theorem dX9_keepBreak_36 : decode cX9_keepBreak 36 = .ok (.aload_n 0, 1) := by decide +kernel
theorem dX9_keepBreak_37 : decode cX9_keepBreak 37 = .ok (.invokevirtual 80, 3) := by decide +kernel
theorem dX9_keepBreak_40 : decode cX9_keepBreak 40 = .ok (.if_icmp .ge 47, 3) := by decide +kernel
theorem dX9_keepBreak_43 : decode cX9_keepBreak 43 = .ok (.aload_n 0, 1) := by decide +kernel
theorem dX9_keepBreak_44 : decode cX9_keepBreak 44 = .ok (.getfield 52, 3) := by decide +kernel
theorem dX9_keepBreak_47 : decode cX9_keepBreak 47 = .ok (.iload 5, 2) := by decide +kernel
theorem dX9_keepBreak_49 : decode cX9_keepBreak 49 = .ok (.dup2, 1) := by decide +kernel
theorem dX9_keepBreak_50 : decode cX9_keepBreak 50 = .ok (.iaload, 1) := by decide +kernel
theorem dX9_keepBreak_51 : decode cX9_keepBreak 51 = .ok (.aload_n 0, 1) := by decide +kernel
theorem dX9_keepBreak_52 : decode cX9_keepBreak 52 = .ok (.getfield 282, 3) := by decide +kernel
theorem dX9_keepBreak_55 : decode cX9_keepBreak 55 = .ok (.iload 5, 2) := by decide +kernel
theorem dX9_keepBreak_57 : decode cX9_keepBreak 57 = .ok (.invokestatic 288, 3) := by decide +kernel
theorem dX9_keepBreak_60 : decode cX9_keepBreak 60 = .ok (.ifCond .ne 18, 3) := by decide +kernel
theorem dX9_keepBreak_63 : decode cX9_keepBreak 63 = .ok (.aload_n 0, 1) := by decide +kernel
theorem dX9_keepBreak_64 : decode cX9_keepBreak 64 = .ok (.iload 5, 2) := by decide +kernel
theorem dX9_keepBreak_66 : decode cX9_keepBreak 66 = .ok (.iload 4, 2) := by decide +kernel
theorem dX9_keepBreak_68 : decode cX9_keepBreak 68 = .ok (.invokevirtual 291, 3) := by decide +kernel
theorem dX9_keepBreak_71 : decode cX9_keepBreak 71 = .ok (.ifCond .ne 7, 3) := by decide +kernel
theorem dX9_keepBreak_74 : decode cX9_keepBreak 74 = .ok (.iconst 1, 1) := by decide +kernel
theorem dX9_keepBreak_75 : decode cX9_keepBreak 75 = .ok (.goto 4, 3) := by decide +kernel
theorem dX9_keepBreak_78 : decode cX9_keepBreak 78 = .ok (.iconst 0, 1) := by decide +kernel
theorem dX9_keepBreak_79 : decode cX9_keepBreak 79 = .ok (.iadd, 1) := by decide +kernel
theorem dX9_keepBreak_80 : decode cX9_keepBreak 80 = .ok (.iastore, 1) := by decide +kernel
theorem dX9_keepBreak_81 : decode cX9_keepBreak 81 = .ok (.iinc 5 1, 3) := by decide +kernel
theorem dX9_keepBreak_84 : decode cX9_keepBreak 84 = .ok (.goto (-50), 3) := by decide +kernel
theorem dX9_keepBreak_87 : decode cX9_keepBreak 87 = .ok (.aload_n 0, 1) := by decide +kernel
theorem dX9_keepBreak_88 : decode cX9_keepBreak 88 = .ok (.getfield 43, 3) := by decide +kernel
theorem dX9_keepBreak_91 : decode cX9_keepBreak 91 = .ok (.iload_n 2, 1) := by decide +kernel
theorem dX9_keepBreak_92 : decode cX9_keepBreak 92 = .ok (.iaload, 1) := by decide +kernel
theorem dX9_keepBreak_93 : decode cX9_keepBreak 93 = .ok (.aload_n 0, 1) := by decide +kernel
theorem dX9_keepBreak_94 : decode cX9_keepBreak 94 = .ok (.getfield 43, 3) := by decide +kernel
theorem dX9_keepBreak_97 : decode cX9_keepBreak 97 = .ok (.iload_n 3, 1) := by decide +kernel
theorem dX9_keepBreak_98 : decode cX9_keepBreak 98 = .ok (.iaload, 1) := by decide +kernel
theorem dX9_keepBreak_99 : decode cX9_keepBreak 99 = .ok (.iadd, 1) := by decide +kernel
theorem dX9_keepBreak_100 : decode cX9_keepBreak 100 = .ok (.istore 5, 2) := by decide +kernel
theorem dX9_keepBreak_102 : decode cX9_keepBreak 102 = .ok (.iload 5, 2) := by decide +kernel
theorem dX9_keepBreak_104 : decode cX9_keepBreak 104 = .ok (.aload_n 0, 1) := by decide +kernel
theorem dX9_keepBreak_105 : decode cX9_keepBreak 105 = .ok (.getfield 370, 3) := by decide +kernel
theorem dX9_keepBreak_108 : decode cX9_keepBreak 108 = .ok (.if_icmp .lt 4, 3) := by decide +kernel
theorem dX9_keepBreak_111 : decode cX9_keepBreak 111 = .ok (.return_, 1) := by decide +kernel
theorem dX9_keepBreak_112 : decode cX9_keepBreak 112 = .ok (.aload_n 0, 1) := by decide +kernel
theorem dX9_keepBreak_113 : decode cX9_keepBreak 113 = .ok (.iload 5, 2) := by decide +kernel
theorem dX9_keepBreak_115 : decode cX9_keepBreak 115 = .ok (.putfield 370, 3) := by decide +kernel
theorem dX9_keepBreak_118 : decode cX9_keepBreak 118 = .ok (.aload_n 0, 1) := by decide +kernel
theorem dX9_keepBreak_119 : decode cX9_keepBreak 119 = .ok (.iload_n 1, 1) := by decide +kernel
theorem dX9_keepBreak_120 : decode cX9_keepBreak 120 = .ok (.putfield 373, 3) := by decide +kernel
theorem dX9_keepBreak_123 : decode cX9_keepBreak 123 = .ok (.aload_n 0, 1) := by decide +kernel
theorem dX9_keepBreak_124 : decode cX9_keepBreak 124 = .ok (.iload_n 2, 1) := by decide +kernel
theorem dX9_keepBreak_125 : decode cX9_keepBreak 125 = .ok (.putfield 376, 3) := by decide +kernel
theorem dX9_keepBreak_128 : decode cX9_keepBreak 128 = .ok (.aload_n 0, 1) := by decide +kernel
theorem dX9_keepBreak_129 : decode cX9_keepBreak 129 = .ok (.iload_n 3, 1) := by decide +kernel
theorem dX9_keepBreak_130 : decode cX9_keepBreak 130 = .ok (.putfield 379, 3) := by decide +kernel
theorem dX9_keepBreak_133 : decode cX9_keepBreak 133 = .ok (.return_, 1) := by decide +kernel
theorem dX9_known_0 : decode cX9_known 0 = .ok (.aload_n 0, 1) := by decide +kernel
theorem dX9_known_1 : decode cX9_known 1 = .ok (.iload_n 1, 1) := by decide +kernel
theorem dX9_known_2 : decode cX9_known 2 = .ok (.invokevirtual 256, 3) := by decide +kernel
theorem dX9_known_5 : decode cX9_known 5 = .ok (.ifCond .ne 6, 3) := by decide +kernel
theorem dX9_known_8 : decode cX9_known 8 = .ok (.bipush (-2), 2) := by decide +kernel
theorem dX9_known_10 : decode cX9_known 10 = .ok (.ireturn, 1) := by decide +kernel
theorem dX9_known_11 : decode cX9_known 11 = .ok (.aload_n 0, 1) := by decide +kernel
theorem dX9_known_12 : decode cX9_known 12 = .ok (.iload_n 1, 1) := by decide +kernel
theorem dX9_known_13 : decode cX9_known 13 = .ok (.iconst 0, 1) := by decide +kernel
theorem dX9_known_14 : decode cX9_known 14 = .ok (.invokevirtual 261, 3) := by decide +kernel
theorem dX9_known_17 : decode cX9_known 17 = .ok (.i2l, 1) := by decide +kernel
theorem dX9_known_18 : decode cX9_known 18 = .ok (.lconst 0, 1) := by decide +kernel
theorem dX9_known_19 : decode cX9_known 19 = .ok (.lconst 1, 1) := by decide +kernel
theorem dX9_known_20 : decode cX9_known 20 = .ok (.invokestatic 76, 3) := by decide +kernel
theorem dX9_known_23 : decode cX9_known 23 = .ok (.ifCond .eq 25, 3) := by decide +kernel
theorem dX9_known_26 : decode cX9_known 26 = .ok (.aload_n 0, 1) := by decide +kernel
theorem dX9_known_27 : decode cX9_known 27 = .ok (.getfield 9, 3) := by decide +kernel
theorem dX9_known_30 : decode cX9_known 30 = .ok (.bipush 8, 2) := by decide +kernel
theorem dX9_known_32 : decode cX9_known 32 = .ok (.aload_n 0, 1) := by decide +kernel
theorem dX9_known_33 : decode cX9_known 33 = .ok (.iload_n 1, 1) := by decide +kernel
theorem dX9_known_34 : decode cX9_known 34 = .ok (.iconst 1, 1) := by decide +kernel
theorem dX9_known_35 : decode cX9_known 35 = .ok (.invokevirtual 261, 3) := by decide +kernel
theorem dX9_known_38 : decode cX9_known 38 = .ok (.iadd, 1) := by decide +kernel
theorem dX9_known_39 : decode cX9_known 39 = .ok (.iaload, 1) := by decide +kernel
theorem dX9_known_40 : decode cX9_known 40 = .ok (.iconst 2, 1) := by decide +kernel
theorem dX9_known_41 : decode cX9_known 41 = .ok (.if_icmp .eq 7, 3) := by decide +kernel
theorem dX9_known_44 : decode cX9_known 44 = .ok (.iconst 1, 1) := by decide +kernel
theorem dX9_known_45 : decode cX9_known 45 = .ok (.goto 4, 3) := by decide +kernel
theorem dX9_known_48 : decode cX9_known 48 = .ok (.iconst 0, 1) := by decide +kernel
theorem dX9_known_49 : decode cX9_known 49 = .ok (.istore_n 2, 1) := by decide +kernel
theorem dX9_known_50 : decode cX9_known 50 = .ok (.iload_n 2, 1) := by decide +kernel
theorem dX9_known_51 : decode cX9_known 51 = .ok (.ifCond .eq 7, 3) := by decide +kernel
theorem dX9_known_54 : decode cX9_known 54 = .ok (.iconst 1, 1) := by decide +kernel
theorem dX9_known_55 : decode cX9_known 55 = .ok (.goto 4, 3) := by decide +kernel
theorem dX9_known_58 : decode cX9_known 58 = .ok (.iconst 0, 1) := by decide +kernel
theorem dX9_known_59 : decode cX9_known 59 = .ok (.ireturn, 1) := by decide +kernel
theorem dX9_law_0 : decode cX9_law 0 = .ok (.aload_n 0, 1) := by decide +kernel
theorem dX9_law_1 : decode cX9_law 1 = .ok (.invokevirtual 318, 3) := by decide +kernel
theorem dX9_law_4 : decode cX9_law 4 = .ok (.ifCond .ne 6, 3) := by decide +kernel
theorem dX9_law_7 : decode cX9_law 7 = .ok (.bipush (-2), 2) := by decide +kernel
theorem dX9_law_9 : decode cX9_law 9 = .ok (.ireturn, 1) := by decide +kernel
theorem dX9_law_10 : decode cX9_law 10 = .ok (.iconst 0, 1) := by decide +kernel
theorem dX9_law_11 : decode cX9_law 11 = .ok (.istore_n 1, 1) := by decide +kernel
theorem dX9_law_12 : decode cX9_law 12 = .ok (.iconst 1, 1) := by decide +kernel
theorem dX9_law_13 : decode cX9_law 13 = .ok (.istore_n 2, 1) := by decide +kernel
theorem dX9_law_14 : decode cX9_law 14 = .ok (.iload_n 2, 1) := by decide +kernel
theorem dX9_law_15 : decode cX9_law 15 = .ok (.iconst 4, 1) := by decide +kernel
theorem dX9_law_16 : decode cX9_law 16 = .ok (.if_icmp .ge 28, 3) := by decide +kernel
theorem dX9_law_19 : decode cX9_law 19 = .ok (.aload_n 0, 1) := by decide +kernel
theorem dX9_law_20 : decode cX9_law 20 = .ok (.iload_n 2, 1) := by decide +kernel
theorem dX9_law_21 : decode cX9_law 21 = .ok (.invokevirtual 452, 3) := by decide +kernel
theorem dX9_law_24 : decode cX9_law 24 = .ok (.aload_n 0, 1) := by decide +kernel
theorem dX9_law_25 : decode cX9_law 25 = .ok (.iload_n 1, 1) := by decide +kernel
theorem dX9_law_26 : decode cX9_law 26 = .ok (.invokevirtual 452, 3) := by decide +kernel
theorem dX9_law_29 : decode cX9_law 29 = .ok (.if_icmp .ge 7, 3) := by decide +kernel
theorem dX9_law_32 : decode cX9_law 32 = .ok (.iload_n 2, 1) := by decide +kernel
theorem dX9_law_33 : decode cX9_law 33 = .ok (.goto 4, 3) := by decide +kernel
theorem dX9_law_36 : decode cX9_law 36 = .ok (.iload_n 1, 1) := by decide +kernel
theorem dX9_law_37 : decode cX9_law 37 = .ok (.istore_n 1, 1) := by decide +kernel
theorem dX9_law_38 : decode cX9_law 38 = .ok (.iinc 2 1, 3) := by decide +kernel
theorem dX9_law_41 : decode cX9_law 41 = .ok (.goto (-27), 3) := by decide +kernel
theorem dX9_law_44 : decode cX9_law 44 = .ok (.iload_n 1, 1) := by decide +kernel
theorem dX9_law_45 : decode cX9_law 45 = .ok (.ireturn, 1) := by decide +kernel
theorem dX9_laws_0 : decode cX9_laws 0 = .ok (.aload_n 0, 1) := by decide +kernel
theorem dX9_laws_1 : decode cX9_laws 1 = .ok (.iload_n 1, 1) := by decide +kernel
theorem dX9_laws_2 : decode cX9_laws 2 = .ok (.invokevirtual 443, 3) := by decide +kernel
theorem dX9_laws_5 : decode cX9_laws 5 = .ok (.istore_n 2, 1) := by decide +kernel
theorem dX9_laws_6 : decode cX9_laws 6 = .ok (.iload_n 2, 1) := by decide +kernel
theorem dX9_laws_7 : decode cX9_laws 7 = .ok (.ifCond .ge 5, 3) := by decide +kernel
theorem dX9_laws_10 : decode cX9_laws 10 = .ok (.iload_n 2, 1) := by decide +kernel
theorem dX9_laws_11 : decode cX9_laws 11 = .ok (.ireturn, 1) := by decide +kernel
theorem dX9_laws_12 : decode cX9_laws 12 = .ok (.iconst 0, 1) := by decide +kernel
theorem dX9_laws_13 : decode cX9_laws 13 = .ok (.istore_n 3, 1) := by decide +kernel
theorem dX9_laws_14 : decode cX9_laws 14 = .ok (.aload_n 0, 1) := by decide +kernel
theorem dX9_laws_15 : decode cX9_laws 15 = .ok (.iconst 0, 1) := by decide +kernel
theorem dX9_laws_16 : decode cX9_laws 16 = .ok (.putfield 276, 3) := by decide +kernel
theorem dX9_laws_19 : decode cX9_laws 19 = .ok (.aload_n 0, 1) := by decide +kernel
theorem dX9_laws_20 : decode cX9_laws 20 = .ok (.getfield 276, 3) := by decide +kernel
theorem dX9_laws_23 : decode cX9_laws 23 = .ok (.iconst 4, 1) := by decide +kernel
theorem dX9_laws_24 : decode cX9_laws 24 = .ok (.if_icmp .ge 41, 3) := by decide +kernel
theorem dX9_laws_27 : decode cX9_laws 27 = .ok (.aload_n 0, 1) := by decide +kernel
theorem dX9_laws_28 : decode cX9_laws 28 = .ok (.iload_n 1, 1) := by decide +kernel
theorem dX9_laws_29 : decode cX9_laws 29 = .ok (.invokevirtual 446, 3) := by decide +kernel
theorem dX9_laws_32 : decode cX9_laws 32 = .ok (.iload_n 3, 1) := by decide +kernel
theorem dX9_laws_33 : decode cX9_laws 33 = .ok (.aload_n 0, 1) := by decide +kernel
theorem dX9_laws_34 : decode cX9_laws 34 = .ok (.getfield 437, 3) := by decide +kernel
theorem dX9_laws_37 : decode cX9_laws 37 = .ok (.ifCond .le 12, 3) := by decide +kernel
theorem dX9_laws_40 : decode cX9_laws 40 = .ok (.iconst 1, 1) := by decide +kernel
theorem dX9_laws_41 : decode cX9_laws 41 = .ok (.aload_n 0, 1) := by decide +kernel
theorem dX9_laws_42 : decode cX9_laws 42 = .ok (.getfield 276, 3) := by decide +kernel
theorem dX9_laws_45 : decode cX9_laws 45 = .ok (.ishl, 1) := by decide +kernel
theorem dX9_laws_46 : decode cX9_laws 46 = .ok (.goto 4, 3) := by decide +kernel
theorem dX9_laws_49 : decode cX9_laws 49 = .ok (.iconst 0, 1) := by decide +kernel
theorem dX9_laws_50 : decode cX9_laws 50 = .ok (.ior, 1) := by decide +kernel
theorem dX9_laws_51 : decode cX9_laws 51 = .ok (.istore_n 3, 1) := by decide +kernel
theorem dX9_laws_52 : decode cX9_laws 52 = .ok (.aload_n 0, 1) := by decide +kernel
theorem dX9_laws_53 : decode cX9_laws 53 = .ok (.dup, 1) := by decide +kernel
theorem dX9_laws_54 : decode cX9_laws 54 = .ok (.getfield 276, 3) := by decide +kernel
theorem dX9_laws_57 : decode cX9_laws 57 = .ok (.iconst 1, 1) := by decide +kernel
theorem dX9_laws_58 : decode cX9_laws 58 = .ok (.iadd, 1) := by decide +kernel
theorem dX9_laws_59 : decode cX9_laws 59 = .ok (.putfield 276, 3) := by decide +kernel
theorem dX9_laws_62 : decode cX9_laws 62 = .ok (.goto (-43), 3) := by decide +kernel
theorem dX9_laws_65 : decode cX9_laws 65 = .ok (.iload_n 3, 1) := by decide +kernel
theorem dX9_laws_66 : decode cX9_laws 66 = .ok (.ireturn, 1) := by decide +kernel
theorem dX9_layFits_0 : decode cX9_layFits 0 = .ok (.aload_n 0, 1) := by decide +kernel
theorem dX9_layFits_1 : decode cX9_layFits 1 = .ok (.iconst 0, 1) := by decide +kernel
theorem dX9_layFits_2 : decode cX9_layFits 2 = .ok (.putfield 437, 3) := by decide +kernel
theorem dX9_layFits_5 : decode cX9_layFits 5 = .ok (.aload_n 0, 1) := by decide +kernel
theorem dX9_layFits_6 : decode cX9_layFits 6 = .ok (.iconst (-1), 1) := by decide +kernel
theorem dX9_layFits_7 : decode cX9_layFits 7 = .ok (.putfield 440, 3) := by decide +kernel
theorem dX9_layFits_10 : decode cX9_layFits 10 = .ok (.iconst 0, 1) := by decide +kernel
theorem dX9_layFits_11 : decode cX9_layFits 11 = .ok (.istore_n 2, 1) := by decide +kernel
theorem dX9_layFits_12 : decode cX9_layFits 12 = .ok (.iload_n 2, 1) := by decide +kernel
theorem dX9_layFits_13 : decode cX9_layFits 13 = .ok (.aload_n 0, 1) := by decide +kernel
theorem dX9_layFits_14 : decode cX9_layFits 14 = .ok (.invokevirtual 96, 3) := by decide +kernel
theorem dX9_layFits_17 : decode cX9_layFits 17 = .ok (.if_icmp .ge 112, 3) := by decide +kernel
theorem dX9_layFits_20 : decode cX9_layFits 20 = .ok (.aload_n 0, 1) := by decide +kernel
theorem dX9_layFits_21 : decode cX9_layFits 21 = .ok (.getfield 37, 3) := by decide +kernel
theorem dX9_layFits_24 : decode cX9_layFits 24 = .ok (.iload_n 2, 1) := by decide +kernel
theorem dX9_layFits_25 : decode cX9_layFits 25 = .ok (.baload, 1) := by decide +kernel
theorem dX9_layFits_26 : decode cX9_layFits 26 = .ok (.istore_n 3, 1) := by decide +kernel
theorem dX9_layFits_27 : decode cX9_layFits 27 = .ok (.iconst 0, 1) := by decide +kernel
theorem dX9_layFits_28 : decode cX9_layFits 28 = .ok (.istore 4, 2) := by decide +kernel
theorem dX9_layFits_30 : decode cX9_layFits 30 = .ok (.iload 4, 2) := by decide +kernel
theorem dX9_layFits_32 : decode cX9_layFits 32 = .ok (.aload_n 0, 1) := by decide +kernel
theorem dX9_layFits_33 : decode cX9_layFits 33 = .ok (.getfield 58, 3) := by decide +kernel
theorem dX9_layFits_36 : decode cX9_layFits 36 = .ok (.iload_n 1, 1) := by decide +kernel
theorem dX9_layFits_37 : decode cX9_layFits 37 = .ok (.iaload, 1) := by decide +kernel
theorem dX9_layFits_38 : decode cX9_layFits 38 = .ok (.if_icmp .ge 56, 3) := by decide +kernel
theorem dX9_layFits_41 : decode cX9_layFits 41 = .ok (.iload_n 3, 1) := by decide +kernel
theorem dX9_layFits_42 : decode cX9_layFits 42 = .ok (.ifCond .eq 52, 3) := by decide +kernel
theorem dX9_layFits_45 : decode cX9_layFits 45 = .ok (.aload_n 0, 1) := by decide +kernel
theorem dX9_layFits_46 : decode cX9_layFits 46 = .ok (.iload_n 2, 1) := by decide +kernel
theorem dX9_layFits_47 : decode cX9_layFits 47 = .ok (.aload_n 0, 1) := by decide +kernel
theorem dX9_layFits_48 : decode cX9_layFits 48 = .ok (.iload_n 1, 1) := by decide +kernel
theorem dX9_layFits_49 : decode cX9_layFits 49 = .ok (.iload 4, 2) := by decide +kernel
theorem dX9_layFits_51 : decode cX9_layFits 51 = .ok (.invokevirtual 433, 3) := by decide +kernel
theorem dX9_layFits_54 : decode cX9_layFits 54 = .ok (.l2i, 1) := by decide +kernel
theorem dX9_layFits_55 : decode cX9_layFits 55 = .ok (.aload_n 0, 1) := by decide +kernel
theorem dX9_layFits_56 : decode cX9_layFits 56 = .ok (.iload_n 1, 1) := by decide +kernel
theorem dX9_layFits_57 : decode cX9_layFits 57 = .ok (.iload 4, 2) := by decide +kernel
theorem dX9_layFits_59 : decode cX9_layFits 59 = .ok (.iconst 1, 1) := by decide +kernel
theorem dX9_layFits_60 : decode cX9_layFits 60 = .ok (.iadd, 1) := by decide +kernel
theorem dX9_layFits_61 : decode cX9_layFits 61 = .ok (.invokevirtual 433, 3) := by decide +kernel
theorem dX9_layFits_64 : decode cX9_layFits 64 = .ok (.l2i, 1) := by decide +kernel
theorem dX9_layFits_65 : decode cX9_layFits 65 = .ok (.invokevirtual 344, 3) := by decide +kernel
theorem dX9_layFits_68 : decode cX9_layFits 68 = .ok (.i2l, 1) := by decide +kernel
theorem dX9_layFits_69 : decode cX9_layFits 69 = .ok (.aload_n 0, 1) := by decide +kernel
theorem dX9_layFits_70 : decode cX9_layFits 70 = .ok (.iload_n 1, 1) := by decide +kernel
theorem dX9_layFits_71 : decode cX9_layFits 71 = .ok (.iload 4, 2) := by decide +kernel
theorem dX9_layFits_73 : decode cX9_layFits 73 = .ok (.iconst 2, 1) := by decide +kernel
theorem dX9_layFits_74 : decode cX9_layFits 74 = .ok (.iadd, 1) := by decide +kernel
theorem dX9_layFits_75 : decode cX9_layFits 75 = .ok (.invokevirtual 433, 3) := by decide +kernel
theorem dX9_layFits_78 : decode cX9_layFits 78 = .ok (.lcmp, 1) := by decide +kernel
theorem dX9_layFits_79 : decode cX9_layFits 79 = .ok (.ifCond .ne 7, 3) := by decide +kernel
theorem dX9_layFits_82 : decode cX9_layFits 82 = .ok (.iconst 1, 1) := by decide +kernel
theorem dX9_layFits_83 : decode cX9_layFits 83 = .ok (.goto 4, 3) := by decide +kernel
theorem dX9_layFits_86 : decode cX9_layFits 86 = .ok (.iconst 0, 1) := by decide +kernel
theorem dX9_layFits_87 : decode cX9_layFits 87 = .ok (.istore_n 3, 1) := by decide +kernel
theorem dX9_layFits_88 : decode cX9_layFits 88 = .ok (.iinc 4 3, 3) := by decide +kernel
theorem dX9_layFits_91 : decode cX9_layFits 91 = .ok (.goto (-61), 3) := by decide +kernel
theorem dX9_layFits_94 : decode cX9_layFits 94 = .ok (.iload_n 3, 1) := by decide +kernel
theorem dX9_layFits_95 : decode cX9_layFits 95 = .ok (.ifCond .ne 6, 3) := by decide +kernel
theorem dX9_layFits_98 : decode cX9_layFits 98 = .ok (.goto 25, 3) := by decide +kernel
theorem dX9_layFits_101 : decode cX9_layFits 101 = .ok (.aload_n 0, 1) := by decide +kernel
theorem dX9_layFits_102 : decode cX9_layFits 102 = .ok (.getfield 437, 3) := by decide +kernel
theorem dX9_layFits_105 : decode cX9_layFits 105 = .ok (.ifCond .ne 8, 3) := by decide +kernel
theorem dX9_layFits_108 : decode cX9_layFits 108 = .ok (.aload_n 0, 1) := by decide +kernel
theorem dX9_layFits_109 : decode cX9_layFits 109 = .ok (.iload_n 2, 1) := by decide +kernel
theorem dX9_layFits_110 : decode cX9_layFits 110 = .ok (.putfield 440, 3) := by decide +kernel
theorem dX9_layFits_113 : decode cX9_layFits 113 = .ok (.aload_n 0, 1) := by decide +kernel
theorem dX9_layFits_114 : decode cX9_layFits 114 = .ok (.dup, 1) := by decide +kernel
theorem dX9_layFits_115 : decode cX9_layFits 115 = .ok (.getfield 437, 3) := by decide +kernel
theorem dX9_layFits_118 : decode cX9_layFits 118 = .ok (.iconst 1, 1) := by decide +kernel
theorem dX9_layFits_119 : decode cX9_layFits 119 = .ok (.iadd, 1) := by decide +kernel
theorem dX9_layFits_120 : decode cX9_layFits 120 = .ok (.putfield 437, 3) := by decide +kernel
theorem dX9_layFits_123 : decode cX9_layFits 123 = .ok (.iinc 2 1, 3) := by decide +kernel
theorem dX9_layFits_126 : decode cX9_layFits 126 = .ok (.goto (-114), 3) := by decide +kernel
theorem dX9_layFits_129 : decode cX9_layFits 129 = .ok (.return_, 1) := by decide +kernel
theorem dX9_least_0 : decode cX9_least 0 = .ok (.aload_n 0, 1) := by decide +kernel
theorem dX9_least_1 : decode cX9_least 1 = .ok (.iload_n 1, 1) := by decide +kernel
theorem dX9_least_2 : decode cX9_least 2 = .ok (.invokevirtual 399, 3) := by decide +kernel
theorem dX9_least_5 : decode cX9_least 5 = .ok (.ifCond .eq 15, 3) := by decide +kernel
theorem dX9_least_8 : decode cX9_least 8 = .ok (.iload_n 2, 1) := by decide +kernel
theorem dX9_least_9 : decode cX9_least 9 = .ok (.i2l, 1) := by decide +kernel
theorem dX9_least_10 : decode cX9_least 10 = .ok (.lconst 0, 1) := by decide +kernel
theorem dX9_least_11 : decode cX9_least 11 = .ok (.ldc2_w 259, 3) := by decide +kernel
theorem dX9_least_14 : decode cX9_least 14 = .ok (.invokestatic 76, 3) := by decide +kernel
theorem dX9_least_17 : decode cX9_least 17 = .ok (.ifCond .ne 6, 3) := by decide +kernel
theorem dX9_least_20 : decode cX9_least 20 = .ok (.bipush (-2), 2) := by decide +kernel
theorem dX9_least_22 : decode cX9_least 22 = .ok (.ireturn, 1) := by decide +kernel
theorem dX9_least_23 : decode cX9_least 23 = .ok (.aload_n 0, 1) := by decide +kernel
theorem dX9_least_24 : decode cX9_least 24 = .ok (.getfield 367, 3) := by decide +kernel
theorem dX9_least_27 : decode cX9_least 27 = .ok (.ifCond .ne 5, 3) := by decide +kernel
theorem dX9_least_30 : decode cX9_least 30 = .ok (.iconst (-1), 1) := by decide +kernel
theorem dX9_least_31 : decode cX9_least 31 = .ok (.ireturn, 1) := by decide +kernel
theorem dX9_least_32 : decode cX9_least 32 = .ok (.iload_n 2, 1) := by decide +kernel
theorem dX9_least_33 : decode cX9_least 33 = .ok (.tableswitch 63 0 3 #[31, 36, 41, 46], 31) := by decide +kernel
theorem dX9_least_64 : decode cX9_least 64 = .ok (.aload_n 0, 1) := by decide +kernel
theorem dX9_least_65 : decode cX9_least 65 = .ok (.getfield 373, 3) := by decide +kernel
theorem dX9_least_68 : decode cX9_least 68 = .ok (.ireturn, 1) := by decide +kernel
theorem dX9_least_69 : decode cX9_least 69 = .ok (.aload_n 0, 1) := by decide +kernel
theorem dX9_least_70 : decode cX9_least 70 = .ok (.getfield 376, 3) := by decide +kernel
theorem dX9_least_73 : decode cX9_least 73 = .ok (.ireturn, 1) := by decide +kernel
theorem dX9_least_74 : decode cX9_least 74 = .ok (.aload_n 0, 1) := by decide +kernel
theorem dX9_least_75 : decode cX9_least 75 = .ok (.getfield 379, 3) := by decide +kernel
theorem dX9_least_78 : decode cX9_least 78 = .ok (.ireturn, 1) := by decide +kernel
theorem dX9_least_79 : decode cX9_least 79 = .ok (.aload_n 0, 1) := by decide +kernel
theorem dX9_least_80 : decode cX9_least 80 = .ok (.aload_n 0, 1) := by decide +kernel
theorem dX9_least_81 : decode cX9_least 81 = .ok (.getfield 373, 3) := by decide +kernel
theorem dX9_least_84 : decode cX9_least 84 = .ok (.aload_n 0, 1) := by decide +kernel
theorem dX9_least_85 : decode cX9_least 85 = .ok (.getfield 376, 3) := by decide +kernel
theorem dX9_least_88 : decode cX9_least 88 = .ok (.aload_n 0, 1) := by decide +kernel
theorem dX9_least_89 : decode cX9_least 89 = .ok (.getfield 379, 3) := by decide +kernel
theorem dX9_least_92 : decode cX9_least 92 = .ok (.invokevirtual 344, 3) := by decide +kernel
theorem dX9_least_95 : decode cX9_least 95 = .ok (.ireturn, 1) := by decide +kernel
theorem dX9_least_96 : decode cX9_least 96 = .ok (.aload_n 0, 1) := by decide +kernel
theorem dX9_least_97 : decode cX9_least 97 = .ok (.getfield 370, 3) := by decide +kernel
theorem dX9_least_100 : decode cX9_least 100 = .ok (.ireturn, 1) := by decide +kernel
theorem dX9_locks_0 : decode cX9_locks 0 = .ok (.aload_n 0, 1) := by decide +kernel
theorem dX9_locks_1 : decode cX9_locks 1 = .ok (.iload_n 1, 1) := by decide +kernel
theorem dX9_locks_2 : decode cX9_locks 2 = .ok (.invokevirtual 424, 3) := by decide +kernel
theorem dX9_locks_5 : decode cX9_locks 5 = .ok (.ifCond .eq 10, 3) := by decide +kernel
theorem dX9_locks_8 : decode cX9_locks 8 = .ok (.aload_n 0, 1) := by decide +kernel
theorem dX9_locks_9 : decode cX9_locks 9 = .ok (.getfield 409, 3) := by decide +kernel
theorem dX9_locks_12 : decode cX9_locks 12 = .ok (.goto 5, 3) := by decide +kernel
theorem dX9_locks_15 : decode cX9_locks 15 = .ok (.bipush (-2), 2) := by decide +kernel
theorem dX9_locks_17 : decode cX9_locks 17 = .ok (.ireturn, 1) := by decide +kernel
theorem dX9_needed_0 : decode cX9_needed 0 = .ok (.aload_n 0, 1) := by decide +kernel
theorem dX9_needed_1 : decode cX9_needed 1 = .ok (.iload_n 1, 1) := by decide +kernel
theorem dX9_needed_2 : decode cX9_needed 2 = .ok (.invokevirtual 424, 3) := by decide +kernel
theorem dX9_needed_5 : decode cX9_needed 5 = .ok (.ifCond .eq 10, 3) := by decide +kernel
theorem dX9_needed_8 : decode cX9_needed 8 = .ok (.aload_n 0, 1) := by decide +kernel
theorem dX9_needed_9 : decode cX9_needed 9 = .ok (.getfield 415, 3) := by decide +kernel
theorem dX9_needed_12 : decode cX9_needed 12 = .ok (.goto 5, 3) := by decide +kernel
theorem dX9_needed_15 : decode cX9_needed 15 = .ok (.bipush (-2), 2) := by decide +kernel
theorem dX9_needed_17 : decode cX9_needed 17 = .ok (.ireturn, 1) := by decide +kernel
theorem dX9_numberAt_0 : decode cX9_numberAt 0 = .ok (.aload_n 0, 1) := by decide +kernel
theorem dX9_numberAt_1 : decode cX9_numberAt 1 = .ok (.getfield 64, 3) := by decide +kernel
theorem dX9_numberAt_4 : decode cX9_numberAt 4 = .ok (.bipush 60, 2) := by decide +kernel
theorem dX9_numberAt_6 : decode cX9_numberAt 6 = .ok (.iload_n 1, 1) := by decide +kernel
theorem dX9_numberAt_7 : decode cX9_numberAt 7 = .ok (.imul, 1) := by decide +kernel
theorem dX9_numberAt_8 : decode cX9_numberAt 8 = .ok (.iload_n 2, 1) := by decide +kernel
theorem dX9_numberAt_9 : decode cX9_numberAt 9 = .ok (.iadd, 1) := by decide +kernel
theorem dX9_numberAt_10 : decode cX9_numberAt 10 = .ok (.laload, 1) := by decide +kernel
theorem dX9_numberAt_11 : decode cX9_numberAt 11 = .ok (.lreturn, 1) := by decide +kernel
theorem dX9_pairs_0 : decode cX9_pairs 0 = .ok (.aload_n 0, 1) := by decide +kernel
theorem dX9_pairs_1 : decode cX9_pairs 1 = .ok (.iload_n 1, 1) := by decide +kernel
theorem dX9_pairs_2 : decode cX9_pairs 2 = .ok (.invokevirtual 399, 3) := by decide +kernel
theorem dX9_pairs_5 : decode cX9_pairs 5 = .ok (.ifCond .ne 6, 3) := by decide +kernel
theorem dX9_pairs_8 : decode cX9_pairs 8 = .ok (.bipush (-2), 2) := by decide +kernel
theorem dX9_pairs_10 : decode cX9_pairs 10 = .ok (.ireturn, 1) := by decide +kernel
theorem dX9_pairs_11 : decode cX9_pairs 11 = .ok (.iconst 0, 1) := by decide +kernel
theorem dX9_pairs_12 : decode cX9_pairs 12 = .ok (.istore_n 2, 1) := by decide +kernel
theorem dX9_pairs_13 : decode cX9_pairs 13 = .ok (.iconst 0, 1) := by decide +kernel
theorem dX9_pairs_14 : decode cX9_pairs 14 = .ok (.istore_n 3, 1) := by decide +kernel
theorem dX9_pairs_15 : decode cX9_pairs 15 = .ok (.iload_n 3, 1) := by decide +kernel
theorem dX9_pairs_16 : decode cX9_pairs 16 = .ok (.sipush 4096, 3) := by decide +kernel
theorem dX9_pairs_19 : decode cX9_pairs 19 = .ok (.if_icmp .ge 26, 3) := by decide +kernel
theorem dX9_pairs_22 : decode cX9_pairs 22 = .ok (.iload_n 2, 1) := by decide +kernel
theorem dX9_pairs_23 : decode cX9_pairs 23 = .ok (.aload_n 0, 1) := by decide +kernel
theorem dX9_pairs_24 : decode cX9_pairs 24 = .ok (.getfield 49, 3) := by decide +kernel
theorem dX9_pairs_27 : decode cX9_pairs 27 = .ok (.iload_n 3, 1) := by decide +kernel
theorem dX9_pairs_28 : decode cX9_pairs 28 = .ok (.baload, 1) := by decide +kernel
theorem dX9_pairs_29 : decode cX9_pairs 29 = .ok (.ifCond .eq 7, 3) := by decide +kernel
theorem dX9_pairs_32 : decode cX9_pairs 32 = .ok (.iconst 1, 1) := by decide +kernel
theorem dX9_pairs_33 : decode cX9_pairs 33 = .ok (.goto 4, 3) := by decide +kernel
theorem dX9_pairs_36 : decode cX9_pairs 36 = .ok (.iconst 0, 1) := by decide +kernel
theorem dX9_pairs_37 : decode cX9_pairs 37 = .ok (.iadd, 1) := by decide +kernel
theorem dX9_pairs_38 : decode cX9_pairs 38 = .ok (.istore_n 2, 1) := by decide +kernel
theorem dX9_pairs_39 : decode cX9_pairs 39 = .ok (.iinc 3 1, 3) := by decide +kernel
theorem dX9_pairs_42 : decode cX9_pairs 42 = .ok (.goto (-27), 3) := by decide +kernel
theorem dX9_pairs_45 : decode cX9_pairs 45 = .ok (.iload_n 2, 1) := by decide +kernel
theorem dX9_pairs_46 : decode cX9_pairs 46 = .ok (.ireturn, 1) := by decide +kernel
theorem dX9_safe_0 : decode cX9_safe 0 = .ok (.aload_n 0, 1) := by decide +kernel
theorem dX9_safe_1 : decode cX9_safe 1 = .ok (.iload_n 1, 1) := by decide +kernel
theorem dX9_safe_2 : decode cX9_safe 2 = .ok (.invokevirtual 399, 3) := by decide +kernel
theorem dX9_safe_5 : decode cX9_safe 5 = .ok (.ifCond .ne 6, 3) := by decide +kernel
theorem dX9_safe_8 : decode cX9_safe 8 = .ok (.bipush (-2), 2) := by decide +kernel
theorem dX9_safe_10 : decode cX9_safe 10 = .ok (.ireturn, 1) := by decide +kernel
theorem dX9_safe_11 : decode cX9_safe 11 = .ok (.aload_n 0, 1) := by decide +kernel
theorem dX9_safe_12 : decode cX9_safe 12 = .ok (.getfield 367, 3) := by decide +kernel
theorem dX9_safe_15 : decode cX9_safe 15 = .ok (.ifCond .ne 7, 3) := by decide +kernel
theorem dX9_safe_18 : decode cX9_safe 18 = .ok (.iconst 1, 1) := by decide +kernel
theorem dX9_safe_19 : decode cX9_safe 19 = .ok (.goto 4, 3) := by decide +kernel
theorem dX9_safe_22 : decode cX9_safe 22 = .ok (.iconst 0, 1) := by decide +kernel
theorem dX9_safe_23 : decode cX9_safe 23 = .ok (.ireturn, 1) := by decide +kernel
theorem dX9_which_0 : decode cX9_which 0 = .ok (.aload_n 0, 1) := by decide +kernel
theorem dX9_which_1 : decode cX9_which 1 = .ok (.iload_n 1, 1) := by decide +kernel
theorem dX9_which_2 : decode cX9_which 2 = .ok (.invokevirtual 449, 3) := by decide +kernel
theorem dX9_which_5 : decode cX9_which 5 = .ok (.istore_n 2, 1) := by decide +kernel
theorem dX9_which_6 : decode cX9_which 6 = .ok (.iload_n 2, 1) := by decide +kernel
theorem dX9_which_7 : decode cX9_which 7 = .ok (.ifCond .ge 7, 3) := by decide +kernel
theorem dX9_which_10 : decode cX9_which 10 = .ok (.iload_n 2, 1) := by decide +kernel
theorem dX9_which_11 : decode cX9_which 11 = .ok (.goto 7, 3) := by decide +kernel
theorem dX9_which_14 : decode cX9_which 14 = .ok (.aload_n 0, 1) := by decide +kernel
theorem dX9_which_15 : decode cX9_which 15 = .ok (.getfield 440, 3) := by decide +kernel
theorem dX9_which_18 : decode cX9_which 18 = .ok (.ireturn, 1) := by decide +kernel
theorem dX9_worst_0 : decode cX9_worst 0 = .ok (.aload_n 0, 1) := by decide +kernel
theorem dX9_worst_1 : decode cX9_worst 1 = .ok (.iload_n 1, 1) := by decide +kernel
theorem dX9_worst_2 : decode cX9_worst 2 = .ok (.invokevirtual 399, 3) := by decide +kernel
theorem dX9_worst_5 : decode cX9_worst 5 = .ok (.ifCond .ne 6, 3) := by decide +kernel
theorem dX9_worst_8 : decode cX9_worst 8 = .ok (.bipush (-2), 2) := by decide +kernel
theorem dX9_worst_10 : decode cX9_worst 10 = .ok (.ireturn, 1) := by decide +kernel
theorem dX9_worst_11 : decode cX9_worst 11 = .ok (.iconst (-1), 1) := by decide +kernel
theorem dX9_worst_12 : decode cX9_worst 12 = .ok (.istore_n 2, 1) := by decide +kernel
theorem dX9_worst_13 : decode cX9_worst 13 = .ok (.iconst 0, 1) := by decide +kernel
theorem dX9_worst_14 : decode cX9_worst 14 = .ok (.istore_n 3, 1) := by decide +kernel
theorem dX9_worst_15 : decode cX9_worst 15 = .ok (.iload_n 3, 1) := by decide +kernel
theorem dX9_worst_16 : decode cX9_worst 16 = .ok (.aload_n 0, 1) := by decide +kernel
theorem dX9_worst_17 : decode cX9_worst 17 = .ok (.invokevirtual 80, 3) := by decide +kernel
theorem dX9_worst_20 : decode cX9_worst 20 = .ok (.if_icmp .ge 35, 3) := by decide +kernel
theorem dX9_worst_23 : decode cX9_worst 23 = .ok (.aload_n 0, 1) := by decide +kernel
theorem dX9_worst_24 : decode cX9_worst 24 = .ok (.getfield 52, 3) := by decide +kernel
theorem dX9_worst_27 : decode cX9_worst 27 = .ok (.iload_n 3, 1) := by decide +kernel
theorem dX9_worst_28 : decode cX9_worst 28 = .ok (.iaload, 1) := by decide +kernel
theorem dX9_worst_29 : decode cX9_worst 29 = .ok (.iload_n 2, 1) := by decide +kernel
theorem dX9_worst_30 : decode cX9_worst 30 = .ok (.iconst (-1), 1) := by decide +kernel
theorem dX9_worst_31 : decode cX9_worst 31 = .ok (.if_icmp .ne 7, 3) := by decide +kernel
theorem dX9_worst_34 : decode cX9_worst 34 = .ok (.iconst 0, 1) := by decide +kernel
theorem dX9_worst_35 : decode cX9_worst 35 = .ok (.goto 9, 3) := by decide +kernel
theorem dX9_worst_38 : decode cX9_worst 38 = .ok (.aload_n 0, 1) := by decide +kernel
theorem dX9_worst_39 : decode cX9_worst 39 = .ok (.getfield 52, 3) := by decide +kernel
theorem dX9_worst_42 : decode cX9_worst 42 = .ok (.iload_n 2, 1) := by decide +kernel
theorem dX9_worst_43 : decode cX9_worst 43 = .ok (.iaload, 1) := by decide +kernel
theorem dX9_worst_44 : decode cX9_worst 44 = .ok (.if_icmp .le 5, 3) := by decide +kernel
theorem dX9_worst_47 : decode cX9_worst 47 = .ok (.iload_n 3, 1) := by decide +kernel
theorem dX9_worst_48 : decode cX9_worst 48 = .ok (.istore_n 2, 1) := by decide +kernel
theorem dX9_worst_49 : decode cX9_worst 49 = .ok (.iinc 3 1, 3) := by decide +kernel
theorem dX9_worst_52 : decode cX9_worst 52 = .ok (.goto (-37), 3) := by decide +kernel
theorem dX9_worst_55 : decode cX9_worst 55 = .ok (.iload_n 2, 1) := by decide +kernel
theorem dX9_worst_56 : decode cX9_worst 56 = .ok (.ireturn, 1) := by decide +kernel
theorem dX9_worth_0 : decode cX9_worth 0 = .ok (.aload_n 0, 1) := by decide +kernel
theorem dX9_worth_1 : decode cX9_worth 1 = .ok (.invokevirtual 92, 3) := by decide +kernel
theorem dX9_worth_4 : decode cX9_worth 4 = .ok (.ifCond .eq 25, 3) := by decide +kernel
theorem dX9_worth_7 : decode cX9_worth 7 = .ok (.iload_n 1, 1) := by decide +kernel
theorem dX9_worth_8 : decode cX9_worth 8 = .ok (.i2l, 1) := by decide +kernel
theorem dX9_worth_9 : decode cX9_worth 9 = .ok (.lconst 0, 1) := by decide +kernel
theorem dX9_worth_10 : decode cX9_worth 10 = .ok (.aload_n 0, 1) := by decide +kernel
theorem dX9_worth_11 : decode cX9_worth 11 = .ok (.invokevirtual 402, 3) := by decide +kernel
theorem dX9_worth_14 : decode cX9_worth 14 = .ok (.i2l, 1) := by decide +kernel
theorem dX9_worth_15 : decode cX9_worth 15 = .ok (.invokestatic 76, 3) := by decide +kernel
theorem dX9_worth_18 : decode cX9_worth 18 = .ok (.ifCond .eq 11, 3) := by decide +kernel
theorem dX9_worth_21 : decode cX9_worth 21 = .ok (.aload_n 0, 1) := by decide +kernel
theorem dX9_worth_22 : decode cX9_worth 22 = .ok (.iload_n 1, 1) := by decide +kernel
theorem dX9_worth_23 : decode cX9_worth 23 = .ok (.invokevirtual 455, 3) := by decide +kernel
theorem dX9_worth_26 : decode cX9_worth 26 = .ok (.goto 5, 3) := by decide +kernel
theorem dX9_worth_29 : decode cX9_worth 29 = .ok (.bipush (-2), 2) := by decide +kernel
theorem dX9_worth_31 : decode cX9_worth 31 = .ok (.ireturn, 1) := by decide +kernel
theorem dX9_worthOf_0 : decode cX9_worthOf 0 = .ok (.aload_n 0, 1) := by decide +kernel
theorem dX9_worthOf_1 : decode cX9_worthOf 1 = .ok (.invokevirtual 308, 3) := by decide +kernel
theorem dX9_worthOf_4 : decode cX9_worthOf 4 = .ok (.aload_n 0, 1) := by decide +kernel
theorem dX9_worthOf_5 : decode cX9_worthOf 5 = .ok (.aload_n 0, 1) := by decide +kernel
theorem dX9_worthOf_6 : decode cX9_worthOf 6 = .ok (.getfield 282, 3) := by decide +kernel
theorem dX9_worthOf_9 : decode cX9_worthOf 9 = .ok (.aload_n 0, 1) := by decide +kernel
theorem dX9_worthOf_10 : decode cX9_worthOf 10 = .ok (.invokevirtual 402, 3) := by decide +kernel
theorem dX9_worthOf_13 : decode cX9_worthOf 13 = .ok (.iload_n 1, 1) := by decide +kernel
theorem dX9_worthOf_14 : decode cX9_worthOf 14 = .ok (.iconst (-1), 1) := by decide +kernel
theorem dX9_worthOf_15 : decode cX9_worthOf 15 = .ok (.ixor, 1) := by decide +kernel
theorem dX9_worthOf_16 : decode cX9_worthOf 16 = .ok (.iand, 1) := by decide +kernel
theorem dX9_worthOf_17 : decode cX9_worthOf 17 = .ok (.ior, 1) := by decide +kernel
theorem dX9_worthOf_18 : decode cX9_worthOf 18 = .ok (.invokevirtual 427, 3) := by decide +kernel
theorem dX9_worthOf_21 : decode cX9_worthOf 21 = .ok (.ireturn, 1) := by decide +kernel
theorem iuX9_all_X9 : ∀ w ∈ u_ws RX9 TX9 42, w ∈ W_X9_all := fun w h => List.mem_cons_of_mem _ (List.mem_append_right _ (List.mem_append_left _ (h)))
theorem iuX9_alone_X9 : ∀ w ∈ u_ws RX9 TX9 42, w ∈ W_X9_alone := fun w h => List.mem_cons_of_mem _ (List.mem_append_right _ (List.mem_append_left _ (h)))
theorem iuX9_askSeen_X9 : ∀ w ∈ u_ws RX9 TX9 42, w ∈ W_X9_askSeen := fun w h => List.mem_cons_of_mem _ (List.mem_append_right _ (List.mem_append_left _ (h)))
theorem iuX9_begins_X9 : ∀ w ∈ u_ws RX9 TX9 42, w ∈ W_X9_begins := fun w h => List.mem_cons_of_mem _ (List.mem_append_right _ (h))
theorem iuX9_blame_X9 : ∀ w ∈ u_ws RX9 TX9 42, w ∈ W_X9_blame := fun w h => List.mem_cons_of_mem _ (List.mem_append_right _ (List.mem_append_left _ (h)))
theorem iuX9_breaksBy_X9 : ∀ w ∈ u_ws RX9 TX9 42, w ∈ W_X9_breaksBy := fun w h => List.mem_cons_of_mem _ (List.mem_append_right _ (List.mem_append_left _ (h)))
theorem iuX9_breaksByLaw_X9 : ∀ w ∈ u_ws RX9 TX9 42, w ∈ W_X9_breaksByLaw := fun w h => List.mem_cons_of_mem _ (List.mem_append_right _ (List.mem_append_left _ (h)))
theorem iuX9_breaksFrom_X9 : ∀ w ∈ u_ws RX9 TX9 42, w ∈ W_X9_breaksFrom := fun w h => List.mem_cons_of_mem _ (List.mem_append_right _ (List.mem_append_left _ (h)))
theorem iuX9_breaksIn_X9 : ∀ w ∈ u_ws RX9 TX9 42, w ∈ W_X9_breaksIn := fun w h => List.mem_cons_of_mem _ (List.mem_append_right _ (List.mem_append_left _ (h)))
theorem iuX9_calm_X9 : ∀ w ∈ u_ws RX9 TX9 42, w ∈ W_X9_calm := fun w h => List.mem_cons_of_mem _ (List.mem_append_right _ (List.mem_append_left _ (h)))
theorem iuX9_culprit_X9 : ∀ w ∈ u_ws RX9 TX9 42, w ∈ W_X9_culprit := fun w h => List.mem_cons_of_mem _ (List.mem_append_right _ (List.mem_append_left _ (h)))
theorem iuX9_cure_X9 : ∀ w ∈ u_ws RX9 TX9 42, w ∈ W_X9_cure := fun w h => List.mem_cons_of_mem _ (List.mem_append_right _ (List.mem_append_left _ (h)))
theorem iuX9_fewest_X9 : ∀ w ∈ u_ws RX9 TX9 42, w ∈ W_X9_fewest := fun w h => List.mem_cons_of_mem _ (List.mem_append_right _ (List.mem_append_left _ (h)))
theorem iuX9_findFrom_X9 : ∀ w ∈ u_ws RX9 TX9 42, w ∈ W_X9_findFrom := fun w h => List.mem_cons_of_mem _ (List.mem_append_right _ (List.mem_append_left _ (h)))
theorem iuX9_findLocks_X9 : ∀ w ∈ u_ws RX9 TX9 42, w ∈ W_X9_findLocks := fun w h => List.mem_cons_of_mem _ (List.mem_append_right _ (List.mem_append_left _ (h)))
theorem iuX9_fine_X9 : ∀ w ∈ u_ws RX9 TX9 42, w ∈ W_X9_fine := fun w h => List.mem_cons_of_mem _ (List.mem_append_right _ (List.mem_append_left _ (h)))
theorem iuX9_fits_X9 : ∀ w ∈ u_ws RX9 TX9 42, w ∈ W_X9_fits := fun w h => List.mem_cons_of_mem _ (List.mem_append_right _ (List.mem_append_left _ (h)))
theorem iuX9_hits_X9 : ∀ w ∈ u_ws RX9 TX9 42, w ∈ W_X9_hits := fun w h => List.mem_cons_of_mem _ (List.mem_append_right _ (List.mem_append_left _ (h)))
theorem iuX9_hot_X9 : ∀ w ∈ u_ws RX9 TX9 42, w ∈ W_X9_hot := fun w h => List.mem_cons_of_mem _ (List.mem_append_right _ (List.mem_append_left _ (h)))
theorem iuX9_isSafeBy_X9 : ∀ w ∈ u_ws RX9 TX9 42, w ∈ W_X9_isSafeBy := fun w h => List.mem_cons_of_mem _ (List.mem_append_right _ (List.mem_append_left _ (h)))
theorem iuX9_keepBreak_X9 : ∀ w ∈ u_ws RX9 TX9 42, w ∈ W_X9_keepBreak := fun w h => List.mem_cons_of_mem _ (List.mem_append_right _ (List.mem_append_left _ (h)))
theorem iuX9_known_X9 : ∀ w ∈ u_ws RX9 TX9 42, w ∈ W_X9_known := fun w h => List.mem_cons_of_mem _ (List.mem_append_right _ (List.mem_append_left _ (h)))
theorem iuX9_laws_X9 : ∀ w ∈ u_ws RX9 TX9 42, w ∈ W_X9_laws := fun w h => List.mem_cons_of_mem _ (List.mem_append_right _ (List.mem_append_left _ (h)))
theorem iuX9_layFits_X9 : ∀ w ∈ u_ws RX9 TX9 42, w ∈ W_X9_layFits := fun w h => List.mem_cons_of_mem _ (List.mem_append_right _ (List.mem_append_left _ (h)))
theorem iuX9_least_X9 : ∀ w ∈ u_ws RX9 TX9 42, w ∈ W_X9_least := fun w h => List.mem_cons_of_mem _ (List.mem_append_right _ (List.mem_append_left _ (h)))
theorem iuX9_locks_X9 : ∀ w ∈ u_ws RX9 TX9 42, w ∈ W_X9_locks := fun w h => List.mem_cons_of_mem _ (List.mem_append_right _ (List.mem_append_left _ (h)))
theorem iuX9_needed_X9 : ∀ w ∈ u_ws RX9 TX9 42, w ∈ W_X9_needed := fun w h => List.mem_cons_of_mem _ (List.mem_append_right _ (List.mem_append_left _ (h)))
theorem iuX9_numberAt_X9 : ∀ w ∈ u_ws RX9 TX9 42, w ∈ W_X9_numberAt := fun w h => List.mem_cons_of_mem _ (List.mem_append_right _ (h))
theorem iuX9_pairs_X9 : ∀ w ∈ u_ws RX9 TX9 42, w ∈ W_X9_pairs := fun w h => List.mem_cons_of_mem _ (List.mem_append_right _ (List.mem_append_left _ (h)))
theorem iuX9_safe_X9 : ∀ w ∈ u_ws RX9 TX9 42, w ∈ W_X9_safe := fun w h => List.mem_cons_of_mem _ (List.mem_append_right _ (List.mem_append_left _ (h)))
theorem iuX9_which_X9 : ∀ w ∈ u_ws RX9 TX9 42, w ∈ W_X9_which := fun w h => List.mem_cons_of_mem _ (List.mem_append_right _ (List.mem_append_left _ (h)))
theorem iuX9_worst_X9 : ∀ w ∈ u_ws RX9 TX9 42, w ∈ W_X9_worst := fun w h => List.mem_cons_of_mem _ (List.mem_append_right _ (List.mem_append_left _ (h)))
theorem iuX9_worthOf_X9 : ∀ w ∈ u_ws RX9 TX9 42, w ∈ W_X9_worthOf := fun w h => List.mem_cons_of_mem _ (List.mem_append_right _ (List.mem_append_left _ (h)))
theorem gw_X9_all_X9_asksIn : GoodIn W_X9_all W_X9_asksIn := fun w h => ⟨List.mem_cons_of_mem _ (List.mem_append_right _ (List.mem_append_right _ (h))), (wI_X9_asksIn w h).2⟩
theorem gc_X9_all_399_X9_asksIn : GoodIn W_X9_all (wsV RX9 399 RX9 yX9_asksIn W_X9_asksIn) := goodIn_app (goodIn_sub (List.forall_mem_cons.mpr ⟨List.mem_cons_of_mem _ (List.mem_append_left _ (List.mem_of_getElem? (i := 0) rfl)), List.forall_mem_cons.mpr ⟨List.mem_cons_of_mem _ (List.mem_append_left _ (List.mem_of_getElem? (i := 1) rfl)), List.forall_mem_cons.mpr ⟨List.mem_cons_of_mem _ (List.mem_append_left _ (List.mem_of_getElem? (i := 2) rfl)), List.forall_mem_cons.mpr ⟨List.mem_cons_of_mem _ (List.mem_append_left _ (List.mem_of_getElem? (i := 3) rfl)), fun _ h => absurd h List.not_mem_nil⟩⟩⟩⟩) (by decide +kernel)) gw_X9_all_X9_asksIn
theorem gw_X9_alone_X9_isDepth : GoodIn W_X9_alone W_X9_isDepth := fun w h => ⟨List.mem_cons_of_mem _ (List.mem_append_right _ (List.mem_append_right _ (List.mem_append_right _ (List.mem_append_right _ (List.mem_append_left _ (h)))))), (wI_X9_isDepth w h).2⟩
theorem gc_X9_alone_357_X9_isDepth : GoodIn W_X9_alone (va_wsS RX9 357 yX9_isDepth W_X9_isDepth) := goodIn_app (goodIn_sub (List.forall_mem_cons.mpr ⟨List.mem_cons_of_mem _ (List.mem_append_left _ (List.mem_of_getElem? (i := 7) rfl)), List.forall_mem_cons.mpr ⟨List.mem_cons_of_mem _ (List.mem_append_left _ (List.mem_of_getElem? (i := 8) rfl)), List.forall_mem_cons.mpr ⟨List.mem_cons_of_mem _ (List.mem_append_left _ (List.mem_of_getElem? (i := 3) rfl)), fun _ h => absurd h List.not_mem_nil⟩⟩⟩) (by decide +kernel)) gw_X9_alone_X9_isDepth
theorem gw_X9_alone_X9_isRule : GoodIn W_X9_alone W_X9_isRule := fun w h => ⟨List.mem_cons_of_mem _ (List.mem_append_right _ (List.mem_append_right _ (List.mem_append_right _ (List.mem_append_left _ (h))))), (wI_X9_isRule w h).2⟩
theorem gc_X9_alone_256_X9_isRule : GoodIn W_X9_alone (wsV RX9 256 RX9 yX9_isRule W_X9_isRule) := goodIn_app (goodIn_sub (List.forall_mem_cons.mpr ⟨List.mem_cons_of_mem _ (List.mem_append_left _ (List.mem_of_getElem? (i := 4) rfl)), List.forall_mem_cons.mpr ⟨List.mem_cons_of_mem _ (List.mem_append_left _ (List.mem_of_getElem? (i := 5) rfl)), List.forall_mem_cons.mpr ⟨List.mem_cons_of_mem _ (List.mem_append_left _ (List.mem_of_getElem? (i := 6) rfl)), List.forall_mem_cons.mpr ⟨List.mem_cons_of_mem _ (List.mem_append_left _ (List.mem_of_getElem? (i := 3) rfl)), fun _ h => absurd h List.not_mem_nil⟩⟩⟩⟩) (by decide +kernel)) gw_X9_alone_X9_isRule
theorem gw_X9_alone_X9_asks : GoodIn W_X9_alone W_X9_asks := fun w h => ⟨List.mem_cons_of_mem _ (List.mem_append_right _ (List.mem_append_right _ (List.mem_append_left _ (h)))), (wI_X9_asks w h).2⟩
theorem gc_X9_alone_318_X9_asks : GoodIn W_X9_alone (wsV RX9 318 RX9 yX9_asks W_X9_asks) := goodIn_app (goodIn_sub (List.forall_mem_cons.mpr ⟨List.mem_cons_of_mem _ (List.mem_append_left _ (List.mem_of_getElem? (i := 0) rfl)), List.forall_mem_cons.mpr ⟨List.mem_cons_of_mem _ (List.mem_append_left _ (List.mem_of_getElem? (i := 1) rfl)), List.forall_mem_cons.mpr ⟨List.mem_cons_of_mem _ (List.mem_append_left _ (List.mem_of_getElem? (i := 2) rfl)), List.forall_mem_cons.mpr ⟨List.mem_cons_of_mem _ (List.mem_append_left _ (List.mem_of_getElem? (i := 3) rfl)), fun _ h => absurd h List.not_mem_nil⟩⟩⟩⟩) (by decide +kernel)) gw_X9_alone_X9_asks
theorem gw_X9_alone_X9_allRules : GoodIn W_X9_alone W_X9_allRules := fun w h => ⟨List.mem_cons_of_mem _ (List.mem_append_right _ (List.mem_append_right _ (List.mem_append_right _ (List.mem_append_right _ (List.mem_append_right _ (List.mem_append_left _ (h))))))), (wI_X9_allRules w h).2⟩
theorem gc_X9_alone_402_X9_allRules : GoodIn W_X9_alone (wsV RX9 402 RX9 yX9_allRules W_X9_allRules) := goodIn_app (goodIn_sub (List.forall_mem_cons.mpr ⟨List.mem_cons_of_mem _ (List.mem_append_left _ (List.mem_of_getElem? (i := 9) rfl)), List.forall_mem_cons.mpr ⟨List.mem_cons_of_mem _ (List.mem_append_left _ (List.mem_of_getElem? (i := 10) rfl)), List.forall_mem_cons.mpr ⟨List.mem_cons_of_mem _ (List.mem_append_left _ (List.mem_of_getElem? (i := 11) rfl)), List.forall_mem_cons.mpr ⟨List.mem_cons_of_mem _ (List.mem_append_left _ (List.mem_of_getElem? (i := 3) rfl)), fun _ h => absurd h List.not_mem_nil⟩⟩⟩⟩) (by decide +kernel)) gw_X9_alone_X9_allRules
theorem gw_X9_alone_X9_isSafeBy : GoodIn W_X9_alone W_X9_isSafeBy := fun w h => ⟨List.mem_cons_of_mem _ (List.mem_append_right _ (List.mem_append_right _ (List.mem_append_right _ (List.mem_append_right _ (List.mem_append_right _ (List.mem_append_right _ (h))))))), (wI_X9_isSafeBy w h).2⟩
theorem gc_X9_alone_405_X9_isSafeBy : GoodIn W_X9_alone (wsV RX9 405 RX9 yX9_isSafeBy W_X9_isSafeBy) := goodIn_app (goodIn_sub (List.forall_mem_cons.mpr ⟨List.mem_cons_of_mem _ (List.mem_append_left _ (List.mem_of_getElem? (i := 13) rfl)), List.forall_mem_cons.mpr ⟨List.mem_cons_of_mem _ (List.mem_append_left _ (List.mem_of_getElem? (i := 14) rfl)), List.forall_mem_cons.mpr ⟨List.mem_cons_of_mem _ (List.mem_append_left _ (List.mem_of_getElem? (i := 15) rfl)), List.forall_mem_cons.mpr ⟨List.mem_cons_of_mem _ (List.mem_append_left _ (List.mem_of_getElem? (i := 3) rfl)), fun _ h => absurd h List.not_mem_nil⟩⟩⟩⟩) (by decide +kernel)) gw_X9_alone_X9_isSafeBy
theorem gw_X9_askFits_X9_askSeen : GoodIn W_X9_askFits W_X9_askSeen := fun w h => ⟨List.mem_cons_of_mem _ (List.mem_append_right _ (List.mem_append_left _ (h))), (wI_X9_askSeen w h).2⟩
theorem gc_X9_askFits_443_X9_askSeen : GoodIn W_X9_askFits (wsV RX9 443 RX9 yX9_askSeen W_X9_askSeen) := goodIn_app (goodIn_sub (List.forall_mem_cons.mpr ⟨List.mem_cons_of_mem _ (List.mem_append_left _ (List.mem_of_getElem? (i := 0) rfl)), List.forall_mem_cons.mpr ⟨List.mem_cons_of_mem _ (List.mem_append_left _ (List.mem_of_getElem? (i := 1) rfl)), List.forall_mem_cons.mpr ⟨List.mem_cons_of_mem _ (List.mem_append_left _ (List.mem_of_getElem? (i := 2) rfl)), List.forall_mem_cons.mpr ⟨List.mem_cons_of_mem _ (List.mem_append_left _ (List.mem_of_getElem? (i := 3) rfl)), fun _ h => absurd h List.not_mem_nil⟩⟩⟩⟩) (by decide +kernel)) gw_X9_askFits_X9_askSeen
theorem gw_X9_askFits_X9_layFits : GoodIn W_X9_askFits W_X9_layFits := fun w h => ⟨List.mem_cons_of_mem _ (List.mem_append_right _ (List.mem_append_right _ (h))), (wI_X9_layFits w h).2⟩
theorem gc_X9_askFits_446_X9_layFits : GoodIn W_X9_askFits (wsV RX9 446 RX9 yX9_layFits W_X9_layFits) := goodIn_app (goodIn_sub (List.forall_mem_cons.mpr ⟨List.mem_cons_of_mem _ (List.mem_append_left _ (List.mem_of_getElem? (i := 4) rfl)), List.forall_mem_cons.mpr ⟨List.mem_cons_of_mem _ (List.mem_append_left _ (List.mem_of_getElem? (i := 5) rfl)), List.forall_mem_cons.mpr ⟨List.mem_cons_of_mem _ (List.mem_append_left _ (List.mem_of_getElem? (i := 6) rfl)), List.forall_mem_cons.mpr ⟨List.mem_cons_of_mem _ (List.mem_append_left _ (List.mem_of_getElem? (i := 3) rfl)), fun _ h => absurd h List.not_mem_nil⟩⟩⟩⟩) (by decide +kernel)) gw_X9_askFits_X9_layFits
theorem gw_X9_askSeen_X9_isSlot : GoodIn W_X9_askSeen W_X9_isSlot := fun w h => ⟨List.mem_cons_of_mem _ (List.mem_append_right _ (List.mem_append_right _ (List.mem_append_left _ (h)))), (wI_X9_isSlot w h).2⟩
theorem gc_X9_askSeen_430_X9_isSlot : GoodIn W_X9_askSeen (va_wsS RX9 430 yX9_isSlot W_X9_isSlot) := goodIn_app (goodIn_sub (List.forall_mem_cons.mpr ⟨List.mem_cons_of_mem _ (List.mem_append_left _ (List.mem_of_getElem? (i := 0) rfl)), List.forall_mem_cons.mpr ⟨List.mem_cons_of_mem _ (List.mem_append_left _ (List.mem_of_getElem? (i := 1) rfl)), List.forall_mem_cons.mpr ⟨List.mem_cons_of_mem _ (List.mem_append_left _ (List.mem_of_getElem? (i := 2) rfl)), fun _ h => absurd h List.not_mem_nil⟩⟩⟩) (by decide +kernel)) gw_X9_askSeen_X9_isSlot
theorem gw_X9_askSeen_X9_isState : GoodIn W_X9_askSeen W_X9_isState := fun w h => ⟨List.mem_cons_of_mem _ (List.mem_append_right _ (List.mem_append_right _ (List.mem_append_right _ (List.mem_append_right _ (List.mem_append_right _ (List.mem_append_left _ (h))))))), (wI_X9_isState w h).2⟩
theorem gc_X9_askSeen_314_X9_isState : GoodIn W_X9_askSeen (wsV RX9 314 RX9 yX9_isState W_X9_isState) := goodIn_app (goodIn_sub (List.forall_mem_cons.mpr ⟨List.mem_cons_of_mem _ (List.mem_append_left _ (List.mem_of_getElem? (i := 10) rfl)), List.forall_mem_cons.mpr ⟨List.mem_cons_of_mem _ (List.mem_append_left _ (List.mem_of_getElem? (i := 11) rfl)), List.forall_mem_cons.mpr ⟨List.mem_cons_of_mem _ (List.mem_append_left _ (List.mem_of_getElem? (i := 12) rfl)), List.forall_mem_cons.mpr ⟨List.mem_cons_of_mem _ (List.mem_append_left _ (List.mem_of_getElem? (i := 2) rfl)), fun _ h => absurd h List.not_mem_nil⟩⟩⟩⟩) (by decide +kernel)) gw_X9_askSeen_X9_isState
theorem gw_X9_askSeen_X9_asks : GoodIn W_X9_askSeen W_X9_asks := fun w h => ⟨List.mem_cons_of_mem _ (List.mem_append_right _ (List.mem_append_right _ (List.mem_append_right _ (List.mem_append_right _ (List.mem_append_right _ (List.mem_append_right _ (h))))))), (wI_X9_asks w h).2⟩
theorem gc_X9_askSeen_318_X9_asks : GoodIn W_X9_askSeen (wsV RX9 318 RX9 yX9_asks W_X9_asks) := goodIn_app (goodIn_sub (List.forall_mem_cons.mpr ⟨List.mem_cons_of_mem _ (List.mem_append_left _ (List.mem_of_getElem? (i := 13) rfl)), List.forall_mem_cons.mpr ⟨List.mem_cons_of_mem _ (List.mem_append_left _ (List.mem_of_getElem? (i := 14) rfl)), List.forall_mem_cons.mpr ⟨List.mem_cons_of_mem _ (List.mem_append_left _ (List.mem_of_getElem? (i := 15) rfl)), List.forall_mem_cons.mpr ⟨List.mem_cons_of_mem _ (List.mem_append_left _ (List.mem_of_getElem? (i := 2) rfl)), fun _ h => absurd h List.not_mem_nil⟩⟩⟩⟩) (by decide +kernel)) gw_X9_askSeen_X9_asks
theorem gw_X9_askSeen_X9_numberAt : GoodIn W_X9_askSeen W_X9_numberAt := fun w h => ⟨List.mem_cons_of_mem _ (List.mem_append_right _ (List.mem_append_right _ (List.mem_append_right _ (List.mem_append_right _ (List.mem_append_left _ (h)))))), (wI_X9_numberAt w h).2⟩
theorem gc_X9_askSeen_433_X9_numberAt : GoodIn W_X9_askSeen (wsV RX9 433 RX9 yX9_numberAt W_X9_numberAt) := goodIn_app (goodIn_sub (List.forall_mem_cons.mpr ⟨List.mem_cons_of_mem _ (List.mem_append_left _ (List.mem_of_getElem? (i := 7) rfl)), List.forall_mem_cons.mpr ⟨List.mem_cons_of_mem _ (List.mem_append_left _ (List.mem_of_getElem? (i := 8) rfl)), List.forall_mem_cons.mpr ⟨List.mem_cons_of_mem _ (List.mem_append_left _ (List.mem_of_getElem? (i := 9) rfl)), List.forall_mem_cons.mpr ⟨List.mem_cons_of_mem _ (List.mem_append_left _ (List.mem_of_getElem? (i := 2) rfl)), fun _ h => absurd h List.not_mem_nil⟩⟩⟩⟩) (by decide +kernel)) gw_X9_askSeen_X9_numberAt
theorem gw_X9_askSeen_X9_isBase : GoodIn W_X9_askSeen W_X9_isBase := fun w h => ⟨List.mem_cons_of_mem _ (List.mem_append_right _ (List.mem_append_right _ (List.mem_append_right _ (List.mem_append_left _ (h))))), (wI_X9_isBase w h).2⟩
theorem gc_X9_askSeen_92_X9_isBase : GoodIn W_X9_askSeen (wsV RX9 92 RX9 yX9_isBase W_X9_isBase) := goodIn_app (goodIn_sub (List.forall_mem_cons.mpr ⟨List.mem_cons_of_mem _ (List.mem_append_left _ (List.mem_of_getElem? (i := 3) rfl)), List.forall_mem_cons.mpr ⟨List.mem_cons_of_mem _ (List.mem_append_left _ (List.mem_of_getElem? (i := 4) rfl)), List.forall_mem_cons.mpr ⟨List.mem_cons_of_mem _ (List.mem_append_left _ (List.mem_of_getElem? (i := 5) rfl)), List.forall_mem_cons.mpr ⟨List.mem_cons_of_mem _ (List.mem_append_left _ (List.mem_of_getElem? (i := 2) rfl)), fun _ h => absurd h List.not_mem_nil⟩⟩⟩⟩) (by decide +kernel)) gw_X9_askSeen_X9_isBase
theorem gw_X9_asksIn_X9_isDepth : GoodIn W_X9_asksIn W_X9_isDepth := fun w h => ⟨List.mem_cons_of_mem _ (List.mem_append_right _ (List.mem_append_right _ (List.mem_append_left _ (h)))), (wI_X9_isDepth w h).2⟩
theorem gc_X9_asksIn_357_X9_isDepth : GoodIn W_X9_asksIn (va_wsS RX9 357 yX9_isDepth W_X9_isDepth) := goodIn_app (goodIn_sub (List.forall_mem_cons.mpr ⟨List.mem_cons_of_mem _ (List.mem_append_left _ (List.mem_of_getElem? (i := 4) rfl)), List.forall_mem_cons.mpr ⟨List.mem_cons_of_mem _ (List.mem_append_left _ (List.mem_of_getElem? (i := 5) rfl)), List.forall_mem_cons.mpr ⟨List.mem_cons_of_mem _ (List.mem_append_left _ (List.mem_of_getElem? (i := 3) rfl)), fun _ h => absurd h List.not_mem_nil⟩⟩⟩) (by decide +kernel)) gw_X9_asksIn_X9_isDepth
theorem gw_X9_asksIn_X9_asks : GoodIn W_X9_asksIn W_X9_asks := fun w h => ⟨List.mem_cons_of_mem _ (List.mem_append_right _ (List.mem_append_left _ (h))), (wI_X9_asks w h).2⟩
theorem gc_X9_asksIn_318_X9_asks : GoodIn W_X9_asksIn (wsV RX9 318 RX9 yX9_asks W_X9_asks) := goodIn_app (goodIn_sub (List.forall_mem_cons.mpr ⟨List.mem_cons_of_mem _ (List.mem_append_left _ (List.mem_of_getElem? (i := 0) rfl)), List.forall_mem_cons.mpr ⟨List.mem_cons_of_mem _ (List.mem_append_left _ (List.mem_of_getElem? (i := 1) rfl)), List.forall_mem_cons.mpr ⟨List.mem_cons_of_mem _ (List.mem_append_left _ (List.mem_of_getElem? (i := 2) rfl)), List.forall_mem_cons.mpr ⟨List.mem_cons_of_mem _ (List.mem_append_left _ (List.mem_of_getElem? (i := 3) rfl)), fun _ h => absurd h List.not_mem_nil⟩⟩⟩⟩) (by decide +kernel)) gw_X9_asksIn_X9_asks
theorem gw_X9_asksIn_X9_breaksIn : GoodIn W_X9_asksIn W_X9_breaksIn := fun w h => ⟨List.mem_cons_of_mem _ (List.mem_append_right _ (List.mem_append_right _ (List.mem_append_right _ (h)))), (wI_X9_breaksIn w h).2⟩
theorem gc_X9_asksIn_393_X9_breaksIn : GoodIn W_X9_asksIn (wsV RX9 393 RX9 yX9_breaksIn W_X9_breaksIn) := goodIn_app (goodIn_sub (List.forall_mem_cons.mpr ⟨List.mem_cons_of_mem _ (List.mem_append_left _ (List.mem_of_getElem? (i := 6) rfl)), List.forall_mem_cons.mpr ⟨List.mem_cons_of_mem _ (List.mem_append_left _ (List.mem_of_getElem? (i := 7) rfl)), List.forall_mem_cons.mpr ⟨List.mem_cons_of_mem _ (List.mem_append_left _ (List.mem_of_getElem? (i := 8) rfl)), List.forall_mem_cons.mpr ⟨List.mem_cons_of_mem _ (List.mem_append_left _ (List.mem_of_getElem? (i := 3) rfl)), fun _ h => absurd h List.not_mem_nil⟩⟩⟩⟩) (by decide +kernel)) gw_X9_asksIn_X9_breaksIn
theorem gw_X9_asksLocks_X9_isDepth : GoodIn W_X9_asksLocks W_X9_isDepth := fun w h => ⟨List.mem_cons_of_mem _ (List.mem_append_right _ (List.mem_append_right _ (List.mem_append_left _ (h)))), (wI_X9_isDepth w h).2⟩
theorem gc_X9_asksLocks_357_X9_isDepth : GoodIn W_X9_asksLocks (va_wsS RX9 357 yX9_isDepth W_X9_isDepth) := goodIn_app (goodIn_sub (List.forall_mem_cons.mpr ⟨List.mem_cons_of_mem _ (List.mem_append_left _ (List.mem_of_getElem? (i := 4) rfl)), List.forall_mem_cons.mpr ⟨List.mem_cons_of_mem _ (List.mem_append_left _ (List.mem_of_getElem? (i := 5) rfl)), List.forall_mem_cons.mpr ⟨List.mem_cons_of_mem _ (List.mem_append_left _ (List.mem_of_getElem? (i := 3) rfl)), fun _ h => absurd h List.not_mem_nil⟩⟩⟩) (by decide +kernel)) gw_X9_asksLocks_X9_isDepth
theorem gw_X9_asksLocks_X9_asks : GoodIn W_X9_asksLocks W_X9_asks := fun w h => ⟨List.mem_cons_of_mem _ (List.mem_append_right _ (List.mem_append_left _ (h))), (wI_X9_asks w h).2⟩
theorem gc_X9_asksLocks_318_X9_asks : GoodIn W_X9_asksLocks (wsV RX9 318 RX9 yX9_asks W_X9_asks) := goodIn_app (goodIn_sub (List.forall_mem_cons.mpr ⟨List.mem_cons_of_mem _ (List.mem_append_left _ (List.mem_of_getElem? (i := 0) rfl)), List.forall_mem_cons.mpr ⟨List.mem_cons_of_mem _ (List.mem_append_left _ (List.mem_of_getElem? (i := 1) rfl)), List.forall_mem_cons.mpr ⟨List.mem_cons_of_mem _ (List.mem_append_left _ (List.mem_of_getElem? (i := 2) rfl)), List.forall_mem_cons.mpr ⟨List.mem_cons_of_mem _ (List.mem_append_left _ (List.mem_of_getElem? (i := 3) rfl)), fun _ h => absurd h List.not_mem_nil⟩⟩⟩⟩) (by decide +kernel)) gw_X9_asksLocks_X9_asks
theorem gw_X9_asksLocks_X9_findLocks : GoodIn W_X9_asksLocks W_X9_findLocks := fun w h => ⟨List.mem_cons_of_mem _ (List.mem_append_right _ (List.mem_append_right _ (List.mem_append_right _ (h)))), (wI_X9_findLocks w h).2⟩
theorem gc_X9_asksLocks_421_X9_findLocks : GoodIn W_X9_asksLocks (wsV RX9 421 RX9 yX9_findLocks W_X9_findLocks) := goodIn_app (goodIn_sub (List.forall_mem_cons.mpr ⟨List.mem_cons_of_mem _ (List.mem_append_left _ (List.mem_of_getElem? (i := 6) rfl)), List.forall_mem_cons.mpr ⟨List.mem_cons_of_mem _ (List.mem_append_left _ (List.mem_of_getElem? (i := 7) rfl)), List.forall_mem_cons.mpr ⟨List.mem_cons_of_mem _ (List.mem_append_left _ (List.mem_of_getElem? (i := 8) rfl)), List.forall_mem_cons.mpr ⟨List.mem_cons_of_mem _ (List.mem_append_left _ (List.mem_of_getElem? (i := 3) rfl)), fun _ h => absurd h List.not_mem_nil⟩⟩⟩⟩) (by decide +kernel)) gw_X9_asksLocks_X9_findLocks
theorem gw_X9_bad_X9_isDepth : GoodIn W_X9_bad W_X9_isDepth := fun w h => ⟨List.mem_cons_of_mem _ (List.mem_append_right _ (List.mem_append_right _ (List.mem_append_right _ (List.mem_append_left _ (h))))), (wI_X9_isDepth w h).2⟩
theorem gc_X9_bad_357_X9_isDepth : GoodIn W_X9_bad (va_wsS RX9 357 yX9_isDepth W_X9_isDepth) := goodIn_app (goodIn_sub (List.forall_mem_cons.mpr ⟨List.mem_cons_of_mem _ (List.mem_append_left _ (List.mem_of_getElem? (i := 7) rfl)), List.forall_mem_cons.mpr ⟨List.mem_cons_of_mem _ (List.mem_append_left _ (List.mem_of_getElem? (i := 8) rfl)), List.forall_mem_cons.mpr ⟨List.mem_cons_of_mem _ (List.mem_append_left _ (List.mem_of_getElem? (i := 3) rfl)), fun _ h => absurd h List.not_mem_nil⟩⟩⟩) (by decide +kernel)) gw_X9_bad_X9_isDepth
theorem gw_X9_bad_X9_isState : GoodIn W_X9_bad W_X9_isState := fun w h => ⟨List.mem_cons_of_mem _ (List.mem_append_right _ (List.mem_append_right _ (List.mem_append_left _ (h)))), (wI_X9_isState w h).2⟩
theorem gc_X9_bad_314_X9_isState : GoodIn W_X9_bad (wsV RX9 314 RX9 yX9_isState W_X9_isState) := goodIn_app (goodIn_sub (List.forall_mem_cons.mpr ⟨List.mem_cons_of_mem _ (List.mem_append_left _ (List.mem_of_getElem? (i := 4) rfl)), List.forall_mem_cons.mpr ⟨List.mem_cons_of_mem _ (List.mem_append_left _ (List.mem_of_getElem? (i := 5) rfl)), List.forall_mem_cons.mpr ⟨List.mem_cons_of_mem _ (List.mem_append_left _ (List.mem_of_getElem? (i := 6) rfl)), List.forall_mem_cons.mpr ⟨List.mem_cons_of_mem _ (List.mem_append_left _ (List.mem_of_getElem? (i := 3) rfl)), fun _ h => absurd h List.not_mem_nil⟩⟩⟩⟩) (by decide +kernel)) gw_X9_bad_X9_isState
theorem gw_X9_bad_X9_asks : GoodIn W_X9_bad W_X9_asks := fun w h => ⟨List.mem_cons_of_mem _ (List.mem_append_right _ (List.mem_append_left _ (h))), (wI_X9_asks w h).2⟩
theorem gc_X9_bad_318_X9_asks : GoodIn W_X9_bad (wsV RX9 318 RX9 yX9_asks W_X9_asks) := goodIn_app (goodIn_sub (List.forall_mem_cons.mpr ⟨List.mem_cons_of_mem _ (List.mem_append_left _ (List.mem_of_getElem? (i := 0) rfl)), List.forall_mem_cons.mpr ⟨List.mem_cons_of_mem _ (List.mem_append_left _ (List.mem_of_getElem? (i := 1) rfl)), List.forall_mem_cons.mpr ⟨List.mem_cons_of_mem _ (List.mem_append_left _ (List.mem_of_getElem? (i := 2) rfl)), List.forall_mem_cons.mpr ⟨List.mem_cons_of_mem _ (List.mem_append_left _ (List.mem_of_getElem? (i := 3) rfl)), fun _ h => absurd h List.not_mem_nil⟩⟩⟩⟩) (by decide +kernel)) gw_X9_bad_X9_asks
theorem gw_X9_bad_X9_breaksFrom : GoodIn W_X9_bad W_X9_breaksFrom := fun w h => ⟨List.mem_cons_of_mem _ (List.mem_append_right _ (List.mem_append_right _ (List.mem_append_right _ (List.mem_append_right _ (h))))), (wI_X9_breaksFrom w h).2⟩
theorem gc_X9_bad_396_X9_breaksFrom : GoodIn W_X9_bad (wsV RX9 396 RX9 yX9_breaksFrom W_X9_breaksFrom) := goodIn_app (goodIn_sub (List.forall_mem_cons.mpr ⟨List.mem_cons_of_mem _ (List.mem_append_left _ (List.mem_of_getElem? (i := 9) rfl)), List.forall_mem_cons.mpr ⟨List.mem_cons_of_mem _ (List.mem_append_left _ (List.mem_of_getElem? (i := 10) rfl)), List.forall_mem_cons.mpr ⟨List.mem_cons_of_mem _ (List.mem_append_left _ (List.mem_of_getElem? (i := 11) rfl)), List.forall_mem_cons.mpr ⟨List.mem_cons_of_mem _ (List.mem_append_left _ (List.mem_of_getElem? (i := 3) rfl)), fun _ h => absurd h List.not_mem_nil⟩⟩⟩⟩) (by decide +kernel)) gw_X9_bad_X9_breaksFrom
theorem gw_X9_bare_X9_isDepth : GoodIn W_X9_bare W_X9_isDepth := fun w h => ⟨List.mem_cons_of_mem _ (List.mem_append_right _ (List.mem_append_right _ (List.mem_append_left _ (h)))), (wI_X9_isDepth w h).2⟩
theorem gc_X9_bare_357_X9_isDepth : GoodIn W_X9_bare (va_wsS RX9 357 yX9_isDepth W_X9_isDepth) := goodIn_app (goodIn_sub (List.forall_mem_cons.mpr ⟨List.mem_cons_of_mem _ (List.mem_append_left _ (List.mem_of_getElem? (i := 4) rfl)), List.forall_mem_cons.mpr ⟨List.mem_cons_of_mem _ (List.mem_append_left _ (List.mem_of_getElem? (i := 5) rfl)), List.forall_mem_cons.mpr ⟨List.mem_cons_of_mem _ (List.mem_append_left _ (List.mem_of_getElem? (i := 3) rfl)), fun _ h => absurd h List.not_mem_nil⟩⟩⟩) (by decide +kernel)) gw_X9_bare_X9_isDepth
theorem gw_X9_bare_X9_asks : GoodIn W_X9_bare W_X9_asks := fun w h => ⟨List.mem_cons_of_mem _ (List.mem_append_right _ (List.mem_append_left _ (h))), (wI_X9_asks w h).2⟩
theorem gc_X9_bare_318_X9_asks : GoodIn W_X9_bare (wsV RX9 318 RX9 yX9_asks W_X9_asks) := goodIn_app (goodIn_sub (List.forall_mem_cons.mpr ⟨List.mem_cons_of_mem _ (List.mem_append_left _ (List.mem_of_getElem? (i := 0) rfl)), List.forall_mem_cons.mpr ⟨List.mem_cons_of_mem _ (List.mem_append_left _ (List.mem_of_getElem? (i := 1) rfl)), List.forall_mem_cons.mpr ⟨List.mem_cons_of_mem _ (List.mem_append_left _ (List.mem_of_getElem? (i := 2) rfl)), List.forall_mem_cons.mpr ⟨List.mem_cons_of_mem _ (List.mem_append_left _ (List.mem_of_getElem? (i := 3) rfl)), fun _ h => absurd h List.not_mem_nil⟩⟩⟩⟩) (by decide +kernel)) gw_X9_bare_X9_asks
theorem gw_X9_bare_X9_breaksFrom : GoodIn W_X9_bare W_X9_breaksFrom := fun w h => ⟨List.mem_cons_of_mem _ (List.mem_append_right _ (List.mem_append_right _ (List.mem_append_right _ (List.mem_append_right _ (h))))), (wI_X9_breaksFrom w h).2⟩
theorem gc_X9_bare_396_X9_breaksFrom : GoodIn W_X9_bare (wsV RX9 396 RX9 yX9_breaksFrom W_X9_breaksFrom) := goodIn_app (goodIn_sub (List.forall_mem_cons.mpr ⟨List.mem_cons_of_mem _ (List.mem_append_left _ (List.mem_of_getElem? (i := 9) rfl)), List.forall_mem_cons.mpr ⟨List.mem_cons_of_mem _ (List.mem_append_left _ (List.mem_of_getElem? (i := 10) rfl)), List.forall_mem_cons.mpr ⟨List.mem_cons_of_mem _ (List.mem_append_left _ (List.mem_of_getElem? (i := 11) rfl)), List.forall_mem_cons.mpr ⟨List.mem_cons_of_mem _ (List.mem_append_left _ (List.mem_of_getElem? (i := 3) rfl)), fun _ h => absurd h List.not_mem_nil⟩⟩⟩⟩) (by decide +kernel)) gw_X9_bare_X9_breaksFrom
theorem gw_X9_bare_X9_stateMany : GoodIn W_X9_bare W_X9_stateMany := fun w h => ⟨List.mem_cons_of_mem _ (List.mem_append_right _ (List.mem_append_right _ (List.mem_append_right _ (List.mem_append_left _ (h))))), (wI_X9_stateMany w h).2⟩
theorem gc_X9_bare_96_X9_stateMany : GoodIn W_X9_bare (wsV RX9 96 RX9 yX9_stateMany W_X9_stateMany) := goodIn_app (goodIn_sub (List.forall_mem_cons.mpr ⟨List.mem_cons_of_mem _ (List.mem_append_left _ (List.mem_of_getElem? (i := 6) rfl)), List.forall_mem_cons.mpr ⟨List.mem_cons_of_mem _ (List.mem_append_left _ (List.mem_of_getElem? (i := 7) rfl)), List.forall_mem_cons.mpr ⟨List.mem_cons_of_mem _ (List.mem_append_left _ (List.mem_of_getElem? (i := 8) rfl)), List.forall_mem_cons.mpr ⟨List.mem_cons_of_mem _ (List.mem_append_left _ (List.mem_of_getElem? (i := 3) rfl)), fun _ h => absurd h List.not_mem_nil⟩⟩⟩⟩) (by decide +kernel)) gw_X9_bare_X9_stateMany
theorem gw_X9_blame_X9_asks : GoodIn W_X9_blame W_X9_asks := fun w h => ⟨List.mem_cons_of_mem _ (List.mem_append_right _ (List.mem_append_right _ (List.mem_append_left _ (h)))), (wI_X9_asks w h).2⟩
theorem gc_X9_blame_318_X9_asks : GoodIn W_X9_blame (wsV RX9 318 RX9 yX9_asks W_X9_asks) := goodIn_app (goodIn_sub (List.forall_mem_cons.mpr ⟨List.mem_cons_of_mem _ (List.mem_append_left _ (List.mem_of_getElem? (i := 0) rfl)), List.forall_mem_cons.mpr ⟨List.mem_cons_of_mem _ (List.mem_append_left _ (List.mem_of_getElem? (i := 1) rfl)), List.forall_mem_cons.mpr ⟨List.mem_cons_of_mem _ (List.mem_append_left _ (List.mem_of_getElem? (i := 2) rfl)), List.forall_mem_cons.mpr ⟨List.mem_cons_of_mem _ (List.mem_append_left _ (List.mem_of_getElem? (i := 3) rfl)), fun _ h => absurd h List.not_mem_nil⟩⟩⟩⟩) (by decide +kernel)) gw_X9_blame_X9_asks
theorem gw_X9_blame_X9_breaksIn : GoodIn W_X9_blame W_X9_breaksIn := fun w h => ⟨List.mem_cons_of_mem _ (List.mem_append_right _ (List.mem_append_right _ (List.mem_append_right _ (List.mem_append_left _ (h))))), (wI_X9_breaksIn w h).2⟩
theorem gc_X9_blame_393_X9_breaksIn : GoodIn W_X9_blame (wsV RX9 393 RX9 yX9_breaksIn W_X9_breaksIn) := goodIn_app (goodIn_sub (List.forall_mem_cons.mpr ⟨List.mem_cons_of_mem _ (List.mem_append_left _ (List.mem_of_getElem? (i := 5) rfl)), List.forall_mem_cons.mpr ⟨List.mem_cons_of_mem _ (List.mem_append_left _ (List.mem_of_getElem? (i := 6) rfl)), List.forall_mem_cons.mpr ⟨List.mem_cons_of_mem _ (List.mem_append_left _ (List.mem_of_getElem? (i := 7) rfl)), List.forall_mem_cons.mpr ⟨List.mem_cons_of_mem _ (List.mem_append_left _ (List.mem_of_getElem? (i := 3) rfl)), fun _ h => absurd h List.not_mem_nil⟩⟩⟩⟩) (by decide +kernel)) gw_X9_blame_X9_breaksIn
theorem gw_X9_blame_X9_breaksBy : GoodIn W_X9_blame W_X9_breaksBy := fun w h => ⟨List.mem_cons_of_mem _ (List.mem_append_right _ (List.mem_append_right _ (List.mem_append_right _ (List.mem_append_right _ (List.mem_append_right _ (h)))))), (wI_X9_breaksBy w h).2⟩
theorem gc_X9_blame_427_X9_breaksBy : GoodIn W_X9_blame (wsV RX9 427 RX9 yX9_breaksBy W_X9_breaksBy) := goodIn_app (goodIn_sub (List.forall_mem_cons.mpr ⟨List.mem_cons_of_mem _ (List.mem_append_left _ (List.mem_of_getElem? (i := 11) rfl)), List.forall_mem_cons.mpr ⟨List.mem_cons_of_mem _ (List.mem_append_left _ (List.mem_of_getElem? (i := 12) rfl)), List.forall_mem_cons.mpr ⟨List.mem_cons_of_mem _ (List.mem_append_left _ (List.mem_of_getElem? (i := 13) rfl)), List.forall_mem_cons.mpr ⟨List.mem_cons_of_mem _ (List.mem_append_left _ (List.mem_of_getElem? (i := 3) rfl)), fun _ h => absurd h List.not_mem_nil⟩⟩⟩⟩) (by decide +kernel)) gw_X9_blame_X9_breaksBy
theorem gw_X9_blame_X9_rules : GoodIn W_X9_blame W_X9_rules := fun w h => ⟨List.mem_cons_of_mem _ (List.mem_append_right _ (List.mem_append_right _ (List.mem_append_right _ (List.mem_append_right _ (List.mem_append_left _ (h)))))), (wI_X9_rules w h).2⟩
theorem gc_X9_blame_80_X9_rules : GoodIn W_X9_blame (wsV RX9 80 RX9 yX9_rules W_X9_rules) := goodIn_app (goodIn_sub (List.forall_mem_cons.mpr ⟨List.mem_cons_of_mem _ (List.mem_append_left _ (List.mem_of_getElem? (i := 8) rfl)), List.forall_mem_cons.mpr ⟨List.mem_cons_of_mem _ (List.mem_append_left _ (List.mem_of_getElem? (i := 9) rfl)), List.forall_mem_cons.mpr ⟨List.mem_cons_of_mem _ (List.mem_append_left _ (List.mem_of_getElem? (i := 10) rfl)), List.forall_mem_cons.mpr ⟨List.mem_cons_of_mem _ (List.mem_append_left _ (List.mem_of_getElem? (i := 3) rfl)), fun _ h => absurd h List.not_mem_nil⟩⟩⟩⟩) (by decide +kernel)) gw_X9_blame_X9_rules
theorem gw_X9_bound_X9_asks : GoodIn W_X9_bound W_X9_asks := fun w h => ⟨List.mem_cons_of_mem _ (List.mem_append_right _ (List.mem_append_left _ (h))), (wI_X9_asks w h).2⟩
theorem gc_X9_bound_318_X9_asks : GoodIn W_X9_bound (wsV RX9 318 RX9 yX9_asks W_X9_asks) := goodIn_app (goodIn_sub (List.forall_mem_cons.mpr ⟨List.mem_cons_of_mem _ (List.mem_append_left _ (List.mem_of_getElem? (i := 0) rfl)), List.forall_mem_cons.mpr ⟨List.mem_cons_of_mem _ (List.mem_append_left _ (List.mem_of_getElem? (i := 1) rfl)), List.forall_mem_cons.mpr ⟨List.mem_cons_of_mem _ (List.mem_append_left _ (List.mem_of_getElem? (i := 2) rfl)), List.forall_mem_cons.mpr ⟨List.mem_cons_of_mem _ (List.mem_append_left _ (List.mem_of_getElem? (i := 3) rfl)), fun _ h => absurd h List.not_mem_nil⟩⟩⟩⟩) (by decide +kernel)) gw_X9_bound_X9_asks
theorem gw_X9_bound_X9_breaksIn : GoodIn W_X9_bound W_X9_breaksIn := fun w h => ⟨List.mem_cons_of_mem _ (List.mem_append_right _ (List.mem_append_right _ (h))), (wI_X9_breaksIn w h).2⟩
theorem gc_X9_bound_393_X9_breaksIn : GoodIn W_X9_bound (wsV RX9 393 RX9 yX9_breaksIn W_X9_breaksIn) := goodIn_app (goodIn_sub (List.forall_mem_cons.mpr ⟨List.mem_cons_of_mem _ (List.mem_append_left _ (List.mem_of_getElem? (i := 4) rfl)), List.forall_mem_cons.mpr ⟨List.mem_cons_of_mem _ (List.mem_append_left _ (List.mem_of_getElem? (i := 5) rfl)), List.forall_mem_cons.mpr ⟨List.mem_cons_of_mem _ (List.mem_append_left _ (List.mem_of_getElem? (i := 6) rfl)), List.forall_mem_cons.mpr ⟨List.mem_cons_of_mem _ (List.mem_append_left _ (List.mem_of_getElem? (i := 3) rfl)), fun _ h => absurd h List.not_mem_nil⟩⟩⟩⟩) (by decide +kernel)) gw_X9_bound_X9_breaksIn
theorem gw_X9_breaksBy_X9_layStates : GoodIn W_X9_breaksBy W_X9_layStates := fun w h => ⟨List.mem_cons_of_mem _ (List.mem_append_right _ (List.mem_append_right _ (List.mem_append_left _ (h)))), (wI_X9_layStates w h).2⟩
theorem gc_X9_breaksBy_311_X9_layStates : GoodIn W_X9_breaksBy (wsV RX9 311 RX9 yX9_layStates W_X9_layStates) := goodIn_app (goodIn_sub (List.forall_mem_cons.mpr ⟨List.mem_cons_of_mem _ (List.mem_append_left _ (List.mem_of_getElem? (i := 1) rfl)), List.forall_mem_cons.mpr ⟨List.mem_cons_of_mem _ (List.mem_append_left _ (List.mem_of_getElem? (i := 2) rfl)), List.forall_mem_cons.mpr ⟨List.mem_cons_of_mem _ (List.mem_append_left _ (List.mem_of_getElem? (i := 3) rfl)), List.forall_mem_cons.mpr ⟨List.mem_cons_of_mem _ (List.mem_append_left _ (List.mem_of_getElem? (i := 4) rfl)), fun _ h => absurd h List.not_mem_nil⟩⟩⟩⟩) (by decide +kernel)) gw_X9_breaksBy_X9_layStates
theorem gw_X9_breaksBy_X9_breaksIn : GoodIn W_X9_breaksBy W_X9_breaksIn := fun w h => ⟨List.mem_cons_of_mem _ (List.mem_append_right _ (List.mem_append_right _ (List.mem_append_right _ (h)))), (wI_X9_breaksIn w h).2⟩
theorem gc_X9_breaksBy_393_X9_breaksIn : GoodIn W_X9_breaksBy (wsV RX9 393 RX9 yX9_breaksIn W_X9_breaksIn) := goodIn_app (goodIn_sub (List.forall_mem_cons.mpr ⟨List.mem_cons_of_mem _ (List.mem_append_left _ (List.mem_of_getElem? (i := 5) rfl)), List.forall_mem_cons.mpr ⟨List.mem_cons_of_mem _ (List.mem_append_left _ (List.mem_of_getElem? (i := 6) rfl)), List.forall_mem_cons.mpr ⟨List.mem_cons_of_mem _ (List.mem_append_left _ (List.mem_of_getElem? (i := 7) rfl)), List.forall_mem_cons.mpr ⟨List.mem_cons_of_mem _ (List.mem_append_left _ (List.mem_of_getElem? (i := 4) rfl)), fun _ h => absurd h List.not_mem_nil⟩⟩⟩⟩) (by decide +kernel)) gw_X9_breaksBy_X9_breaksIn
theorem gw_X9_breaksByLaw_X9_breaksIn : GoodIn W_X9_breaksByLaw W_X9_breaksIn := fun w h => ⟨List.mem_cons_of_mem _ (List.mem_append_right _ (List.mem_append_right _ (h))), (wI_X9_breaksIn w h).2⟩
theorem gc_X9_breaksByLaw_393_X9_breaksIn : GoodIn W_X9_breaksByLaw (wsV RX9 393 RX9 yX9_breaksIn W_X9_breaksIn) := goodIn_app (goodIn_sub (List.forall_mem_cons.mpr ⟨List.mem_cons_of_mem _ (List.mem_append_left _ (List.mem_of_getElem? (i := 1) rfl)), List.forall_mem_cons.mpr ⟨List.mem_cons_of_mem _ (List.mem_append_left _ (List.mem_of_getElem? (i := 2) rfl)), List.forall_mem_cons.mpr ⟨List.mem_cons_of_mem _ (List.mem_append_left _ (List.mem_of_getElem? (i := 3) rfl)), List.forall_mem_cons.mpr ⟨List.mem_cons_of_mem _ (List.mem_append_left _ (List.mem_of_getElem? (i := 4) rfl)), fun _ h => absurd h List.not_mem_nil⟩⟩⟩⟩) (by decide +kernel)) gw_X9_breaksByLaw_X9_breaksIn
theorem gw_X9_breaksFrom_X9_begins : GoodIn W_X9_breaksFrom W_X9_begins := fun w h => ⟨List.mem_cons_of_mem _ (List.mem_append_right _ (List.mem_append_right _ (List.mem_append_left _ (h)))), (wI_X9_begins w h).2⟩
theorem gc_X9_breaksFrom_386_X9_begins : GoodIn W_X9_breaksFrom (wsV RX9 386 RX9 yX9_begins W_X9_begins) := goodIn_app (goodIn_sub (List.forall_mem_cons.mpr ⟨List.mem_cons_of_mem _ (List.mem_append_left _ (List.mem_of_getElem? (i := 0) rfl)), List.forall_mem_cons.mpr ⟨List.mem_cons_of_mem _ (List.mem_append_left _ (List.mem_of_getElem? (i := 1) rfl)), List.forall_mem_cons.mpr ⟨List.mem_cons_of_mem _ (List.mem_append_left _ (List.mem_of_getElem? (i := 2) rfl)), List.forall_mem_cons.mpr ⟨List.mem_cons_of_mem _ (List.mem_append_left _ (List.mem_of_getElem? (i := 3) rfl)), fun _ h => absurd h List.not_mem_nil⟩⟩⟩⟩) (by decide +kernel)) gw_X9_breaksFrom_X9_begins
theorem gw_X9_breaksFrom_X9_findFrom : GoodIn W_X9_breaksFrom W_X9_findFrom := fun w h => ⟨List.mem_cons_of_mem _ (List.mem_append_right _ (List.mem_append_right _ (List.mem_append_right _ (h)))), (wI_X9_findFrom w h).2⟩
theorem gc_X9_breaksFrom_389_X9_findFrom : GoodIn W_X9_breaksFrom (wsV RX9 389 RX9 yX9_findFrom W_X9_findFrom) := goodIn_app (goodIn_sub (List.forall_mem_cons.mpr ⟨List.mem_cons_of_mem _ (List.mem_append_left _ (List.mem_of_getElem? (i := 4) rfl)), List.forall_mem_cons.mpr ⟨List.mem_cons_of_mem _ (List.mem_append_left _ (List.mem_of_getElem? (i := 5) rfl)), List.forall_mem_cons.mpr ⟨List.mem_cons_of_mem _ (List.mem_append_left _ (List.mem_of_getElem? (i := 6) rfl)), List.forall_mem_cons.mpr ⟨List.mem_cons_of_mem _ (List.mem_append_left _ (List.mem_of_getElem? (i := 3) rfl)), fun _ h => absurd h List.not_mem_nil⟩⟩⟩⟩) (by decide +kernel)) gw_X9_breaksFrom_X9_findFrom
theorem gw_X9_breaksIn_X9_begins : GoodIn W_X9_breaksIn W_X9_begins := fun w h => ⟨List.mem_cons_of_mem _ (List.mem_append_right _ (List.mem_append_right _ (List.mem_append_left _ (h)))), (wI_X9_begins w h).2⟩
theorem gc_X9_breaksIn_386_X9_begins : GoodIn W_X9_breaksIn (wsV RX9 386 RX9 yX9_begins W_X9_begins) := goodIn_app (goodIn_sub (List.forall_mem_cons.mpr ⟨List.mem_cons_of_mem _ (List.mem_append_left _ (List.mem_of_getElem? (i := 0) rfl)), List.forall_mem_cons.mpr ⟨List.mem_cons_of_mem _ (List.mem_append_left _ (List.mem_of_getElem? (i := 1) rfl)), List.forall_mem_cons.mpr ⟨List.mem_cons_of_mem _ (List.mem_append_left _ (List.mem_of_getElem? (i := 2) rfl)), List.forall_mem_cons.mpr ⟨List.mem_cons_of_mem _ (List.mem_append_left _ (List.mem_of_getElem? (i := 3) rfl)), fun _ h => absurd h List.not_mem_nil⟩⟩⟩⟩) (by decide +kernel)) gw_X9_breaksIn_X9_begins
theorem gw_X9_breaksIn_X9_findFrom : GoodIn W_X9_breaksIn W_X9_findFrom := fun w h => ⟨List.mem_cons_of_mem _ (List.mem_append_right _ (List.mem_append_right _ (List.mem_append_right _ (List.mem_append_right _ (h))))), (wI_X9_findFrom w h).2⟩
theorem gc_X9_breaksIn_389_X9_findFrom : GoodIn W_X9_breaksIn (wsV RX9 389 RX9 yX9_findFrom W_X9_findFrom) := goodIn_app (goodIn_sub (List.forall_mem_cons.mpr ⟨List.mem_cons_of_mem _ (List.mem_append_left _ (List.mem_of_getElem? (i := 7) rfl)), List.forall_mem_cons.mpr ⟨List.mem_cons_of_mem _ (List.mem_append_left _ (List.mem_of_getElem? (i := 8) rfl)), List.forall_mem_cons.mpr ⟨List.mem_cons_of_mem _ (List.mem_append_left _ (List.mem_of_getElem? (i := 9) rfl)), List.forall_mem_cons.mpr ⟨List.mem_cons_of_mem _ (List.mem_append_left _ (List.mem_of_getElem? (i := 3) rfl)), fun _ h => absurd h List.not_mem_nil⟩⟩⟩⟩) (by decide +kernel)) gw_X9_breaksIn_X9_findFrom
theorem gw_X9_breaksIn_X9_stateMany : GoodIn W_X9_breaksIn W_X9_stateMany := fun w h => ⟨List.mem_cons_of_mem _ (List.mem_append_right _ (List.mem_append_right _ (List.mem_append_right _ (List.mem_append_left _ (h))))), (wI_X9_stateMany w h).2⟩
theorem gc_X9_breaksIn_96_X9_stateMany : GoodIn W_X9_breaksIn (wsV RX9 96 RX9 yX9_stateMany W_X9_stateMany) := goodIn_app (goodIn_sub (List.forall_mem_cons.mpr ⟨List.mem_cons_of_mem _ (List.mem_append_left _ (List.mem_of_getElem? (i := 4) rfl)), List.forall_mem_cons.mpr ⟨List.mem_cons_of_mem _ (List.mem_append_left _ (List.mem_of_getElem? (i := 5) rfl)), List.forall_mem_cons.mpr ⟨List.mem_cons_of_mem _ (List.mem_append_left _ (List.mem_of_getElem? (i := 6) rfl)), List.forall_mem_cons.mpr ⟨List.mem_cons_of_mem _ (List.mem_append_left _ (List.mem_of_getElem? (i := 3) rfl)), fun _ h => absurd h List.not_mem_nil⟩⟩⟩⟩) (by decide +kernel)) gw_X9_breaksIn_X9_stateMany
theorem gw_X9_by_X9_in : GoodIn W_X9_by W_X9_in := fun w h => ⟨List.mem_cons_of_mem _ (List.mem_append_right _ (List.mem_append_right _ (List.mem_append_left _ (h)))), (wI_X9_in w h).2⟩
theorem gc_X9_by_76_X9_in : GoodIn W_X9_by (va_wsS RX9 76 yX9_in W_X9_in) := goodIn_app (goodIn_sub (List.forall_mem_cons.mpr ⟨List.mem_cons_of_mem _ (List.mem_append_left _ (List.mem_of_getElem? (i := 5) rfl)), List.forall_mem_cons.mpr ⟨List.mem_cons_of_mem _ (List.mem_append_left _ (List.mem_of_getElem? (i := 6) rfl)), List.forall_mem_cons.mpr ⟨List.mem_cons_of_mem _ (List.mem_append_left _ (List.mem_of_getElem? (i := 3) rfl)), fun _ h => absurd h List.not_mem_nil⟩⟩⟩) (by decide +kernel)) gw_X9_by_X9_in
theorem gw_X9_by_X9_asks : GoodIn W_X9_by W_X9_asks := fun w h => ⟨List.mem_cons_of_mem _ (List.mem_append_right _ (List.mem_append_left _ (h))), (wI_X9_asks w h).2⟩
theorem gc_X9_by_318_X9_asks : GoodIn W_X9_by (wsV RX9 318 RX9 yX9_asks W_X9_asks) := goodIn_app (goodIn_sub (List.forall_mem_cons.mpr ⟨List.mem_cons_of_mem _ (List.mem_append_left _ (List.mem_of_getElem? (i := 0) rfl)), List.forall_mem_cons.mpr ⟨List.mem_cons_of_mem _ (List.mem_append_left _ (List.mem_of_getElem? (i := 1) rfl)), List.forall_mem_cons.mpr ⟨List.mem_cons_of_mem _ (List.mem_append_left _ (List.mem_of_getElem? (i := 2) rfl)), List.forall_mem_cons.mpr ⟨List.mem_cons_of_mem _ (List.mem_append_left _ (List.mem_of_getElem? (i := 3) rfl)), fun _ h => absurd h List.not_mem_nil⟩⟩⟩⟩) (by decide +kernel)) gw_X9_by_X9_asks
theorem gw_X9_by_X9_breaksByLaw : GoodIn W_X9_by W_X9_breaksByLaw := fun w h => ⟨List.mem_cons_of_mem _ (List.mem_append_right _ (List.mem_append_right _ (List.mem_append_right _ (h)))), (wI_X9_breaksByLaw w h).2⟩
theorem gc_X9_by_452_X9_breaksByLaw : GoodIn W_X9_by (wsV RX9 452 RX9 yX9_breaksByLaw W_X9_breaksByLaw) := goodIn_app (goodIn_sub (List.forall_mem_cons.mpr ⟨List.mem_cons_of_mem _ (List.mem_append_left _ (List.mem_of_getElem? (i := 7) rfl)), List.forall_mem_cons.mpr ⟨List.mem_cons_of_mem _ (List.mem_append_left _ (List.mem_of_getElem? (i := 8) rfl)), List.forall_mem_cons.mpr ⟨List.mem_cons_of_mem _ (List.mem_append_left _ (List.mem_of_getElem? (i := 9) rfl)), List.forall_mem_cons.mpr ⟨List.mem_cons_of_mem _ (List.mem_append_left _ (List.mem_of_getElem? (i := 3) rfl)), fun _ h => absurd h List.not_mem_nil⟩⟩⟩⟩) (by decide +kernel)) gw_X9_by_X9_breaksByLaw
theorem gw_X9_calm_X9_isState : GoodIn W_X9_calm W_X9_isState := fun w h => ⟨List.mem_cons_of_mem _ (List.mem_append_right _ (List.mem_append_right _ (List.mem_append_right _ (List.mem_append_left _ (h))))), (wI_X9_isState w h).2⟩
theorem gc_X9_calm_314_X9_isState : GoodIn W_X9_calm (wsV RX9 314 RX9 yX9_isState W_X9_isState) := goodIn_app (goodIn_sub (List.forall_mem_cons.mpr ⟨List.mem_cons_of_mem _ (List.mem_append_left _ (List.mem_of_getElem? (i := 4) rfl)), List.forall_mem_cons.mpr ⟨List.mem_cons_of_mem _ (List.mem_append_left _ (List.mem_of_getElem? (i := 5) rfl)), List.forall_mem_cons.mpr ⟨List.mem_cons_of_mem _ (List.mem_append_left _ (List.mem_of_getElem? (i := 6) rfl)), List.forall_mem_cons.mpr ⟨List.mem_cons_of_mem _ (List.mem_append_left _ (List.mem_of_getElem? (i := 3) rfl)), fun _ h => absurd h List.not_mem_nil⟩⟩⟩⟩) (by decide +kernel)) gw_X9_calm_X9_isState
theorem gw_X9_calm_X9_asks : GoodIn W_X9_calm W_X9_asks := fun w h => ⟨List.mem_cons_of_mem _ (List.mem_append_right _ (List.mem_append_right _ (List.mem_append_left _ (h)))), (wI_X9_asks w h).2⟩
theorem gc_X9_calm_318_X9_asks : GoodIn W_X9_calm (wsV RX9 318 RX9 yX9_asks W_X9_asks) := goodIn_app (goodIn_sub (List.forall_mem_cons.mpr ⟨List.mem_cons_of_mem _ (List.mem_append_left _ (List.mem_of_getElem? (i := 0) rfl)), List.forall_mem_cons.mpr ⟨List.mem_cons_of_mem _ (List.mem_append_left _ (List.mem_of_getElem? (i := 1) rfl)), List.forall_mem_cons.mpr ⟨List.mem_cons_of_mem _ (List.mem_append_left _ (List.mem_of_getElem? (i := 2) rfl)), List.forall_mem_cons.mpr ⟨List.mem_cons_of_mem _ (List.mem_append_left _ (List.mem_of_getElem? (i := 3) rfl)), fun _ h => absurd h List.not_mem_nil⟩⟩⟩⟩) (by decide +kernel)) gw_X9_calm_X9_asks
theorem gw_X9_calm_X9_breaksFrom : GoodIn W_X9_calm W_X9_breaksFrom := fun w h => ⟨List.mem_cons_of_mem _ (List.mem_append_right _ (List.mem_append_right _ (List.mem_append_right _ (List.mem_append_right _ (h))))), (wI_X9_breaksFrom w h).2⟩
theorem gc_X9_calm_396_X9_breaksFrom : GoodIn W_X9_calm (wsV RX9 396 RX9 yX9_breaksFrom W_X9_breaksFrom) := goodIn_app (goodIn_sub (List.forall_mem_cons.mpr ⟨List.mem_cons_of_mem _ (List.mem_append_left _ (List.mem_of_getElem? (i := 8) rfl)), List.forall_mem_cons.mpr ⟨List.mem_cons_of_mem _ (List.mem_append_left _ (List.mem_of_getElem? (i := 9) rfl)), List.forall_mem_cons.mpr ⟨List.mem_cons_of_mem _ (List.mem_append_left _ (List.mem_of_getElem? (i := 10) rfl)), List.forall_mem_cons.mpr ⟨List.mem_cons_of_mem _ (List.mem_append_left _ (List.mem_of_getElem? (i := 3) rfl)), fun _ h => absurd h List.not_mem_nil⟩⟩⟩⟩) (by decide +kernel)) gw_X9_calm_X9_breaksFrom
theorem gw_X9_culprit_X9_brokenBy : GoodIn W_X9_culprit W_X9_brokenBy := fun w h => ⟨List.mem_cons_of_mem _ (List.mem_append_right _ (List.mem_append_right _ (List.mem_append_right _ (List.mem_append_right _ (h))))), (wI_X9_brokenBy w h).2⟩
theorem gc_X9_culprit_302_X9_brokenBy : GoodIn W_X9_culprit (wsV RX9 302 RX9 yX9_brokenBy W_X9_brokenBy) := goodIn_app (goodIn_sub (List.forall_mem_cons.mpr ⟨List.mem_cons_of_mem _ (List.mem_append_left _ (List.mem_of_getElem? (i := 11) rfl)), List.forall_mem_cons.mpr ⟨List.mem_cons_of_mem _ (List.mem_append_left _ (List.mem_of_getElem? (i := 12) rfl)), List.forall_mem_cons.mpr ⟨List.mem_cons_of_mem _ (List.mem_append_left _ (List.mem_of_getElem? (i := 13) rfl)), List.forall_mem_cons.mpr ⟨List.mem_cons_of_mem _ (List.mem_append_left _ (List.mem_of_getElem? (i := 3) rfl)), fun _ h => absurd h List.not_mem_nil⟩⟩⟩⟩) (by decide +kernel)) gw_X9_culprit_X9_brokenBy
theorem gw_X9_culprit_X9_mergeOf : GoodIn W_X9_culprit W_X9_mergeOf := fun w h => ⟨List.mem_cons_of_mem _ (List.mem_append_right _ (List.mem_append_right _ (List.mem_append_right _ (List.mem_append_left _ (h))))), (wI_X9_mergeOf w h).2⟩
theorem gc_X9_culprit_344_X9_mergeOf : GoodIn W_X9_culprit (wsV RX9 344 RX9 yX9_mergeOf W_X9_mergeOf) := goodIn_app (goodIn_sub (List.forall_mem_cons.mpr ⟨List.mem_cons_of_mem _ (List.mem_append_left _ (List.mem_of_getElem? (i := 8) rfl)), List.forall_mem_cons.mpr ⟨List.mem_cons_of_mem _ (List.mem_append_left _ (List.mem_of_getElem? (i := 9) rfl)), List.forall_mem_cons.mpr ⟨List.mem_cons_of_mem _ (List.mem_append_left _ (List.mem_of_getElem? (i := 10) rfl)), List.forall_mem_cons.mpr ⟨List.mem_cons_of_mem _ (List.mem_append_left _ (List.mem_of_getElem? (i := 3) rfl)), fun _ h => absurd h List.not_mem_nil⟩⟩⟩⟩) (by decide +kernel)) gw_X9_culprit_X9_mergeOf
theorem gw_X9_culprit_X9_asksIn : GoodIn W_X9_culprit W_X9_asksIn := fun w h => ⟨List.mem_cons_of_mem _ (List.mem_append_right _ (List.mem_append_right _ (List.mem_append_left _ (h)))), (wI_X9_asksIn w h).2⟩
theorem gc_X9_culprit_399_X9_asksIn : GoodIn W_X9_culprit (wsV RX9 399 RX9 yX9_asksIn W_X9_asksIn) := goodIn_app (goodIn_sub (List.forall_mem_cons.mpr ⟨List.mem_cons_of_mem _ (List.mem_append_left _ (List.mem_of_getElem? (i := 0) rfl)), List.forall_mem_cons.mpr ⟨List.mem_cons_of_mem _ (List.mem_append_left _ (List.mem_of_getElem? (i := 1) rfl)), List.forall_mem_cons.mpr ⟨List.mem_cons_of_mem _ (List.mem_append_left _ (List.mem_of_getElem? (i := 2) rfl)), List.forall_mem_cons.mpr ⟨List.mem_cons_of_mem _ (List.mem_append_left _ (List.mem_of_getElem? (i := 3) rfl)), fun _ h => absurd h List.not_mem_nil⟩⟩⟩⟩) (by decide +kernel)) gw_X9_culprit_X9_asksIn
theorem gw_X9_cure_X9_asks : GoodIn W_X9_cure W_X9_asks := fun w h => ⟨List.mem_cons_of_mem _ (List.mem_append_right _ (List.mem_append_right _ (List.mem_append_left _ (h)))), (wI_X9_asks w h).2⟩
theorem gc_X9_cure_318_X9_asks : GoodIn W_X9_cure (wsV RX9 318 RX9 yX9_asks W_X9_asks) := goodIn_app (goodIn_sub (List.forall_mem_cons.mpr ⟨List.mem_cons_of_mem _ (List.mem_append_left _ (List.mem_of_getElem? (i := 0) rfl)), List.forall_mem_cons.mpr ⟨List.mem_cons_of_mem _ (List.mem_append_left _ (List.mem_of_getElem? (i := 1) rfl)), List.forall_mem_cons.mpr ⟨List.mem_cons_of_mem _ (List.mem_append_left _ (List.mem_of_getElem? (i := 2) rfl)), List.forall_mem_cons.mpr ⟨List.mem_cons_of_mem _ (List.mem_append_left _ (List.mem_of_getElem? (i := 3) rfl)), fun _ h => absurd h List.not_mem_nil⟩⟩⟩⟩) (by decide +kernel)) gw_X9_cure_X9_asks
theorem gw_X9_cure_X9_breaksIn : GoodIn W_X9_cure W_X9_breaksIn := fun w h => ⟨List.mem_cons_of_mem _ (List.mem_append_right _ (List.mem_append_right _ (List.mem_append_right _ (List.mem_append_left _ (h))))), (wI_X9_breaksIn w h).2⟩
theorem gc_X9_cure_393_X9_breaksIn : GoodIn W_X9_cure (wsV RX9 393 RX9 yX9_breaksIn W_X9_breaksIn) := goodIn_app (goodIn_sub (List.forall_mem_cons.mpr ⟨List.mem_cons_of_mem _ (List.mem_append_left _ (List.mem_of_getElem? (i := 4) rfl)), List.forall_mem_cons.mpr ⟨List.mem_cons_of_mem _ (List.mem_append_left _ (List.mem_of_getElem? (i := 5) rfl)), List.forall_mem_cons.mpr ⟨List.mem_cons_of_mem _ (List.mem_append_left _ (List.mem_of_getElem? (i := 6) rfl)), List.forall_mem_cons.mpr ⟨List.mem_cons_of_mem _ (List.mem_append_left _ (List.mem_of_getElem? (i := 3) rfl)), fun _ h => absurd h List.not_mem_nil⟩⟩⟩⟩) (by decide +kernel)) gw_X9_cure_X9_breaksIn
theorem gw_X9_cure_X9_cells : GoodIn W_X9_cure W_X9_cells := fun w h => ⟨List.mem_cons_of_mem _ (List.mem_append_right _ (List.mem_append_right _ (List.mem_append_right _ (List.mem_append_right _ (h))))), (wI_X9_cells w h).2⟩
theorem gc_X9_cure_87_X9_cells : GoodIn W_X9_cure (wsV RX9 87 RX9 yX9_cells W_X9_cells) := goodIn_app (goodIn_sub (List.forall_mem_cons.mpr ⟨List.mem_cons_of_mem _ (List.mem_append_left _ (List.mem_of_getElem? (i := 7) rfl)), List.forall_mem_cons.mpr ⟨List.mem_cons_of_mem _ (List.mem_append_left _ (List.mem_of_getElem? (i := 8) rfl)), List.forall_mem_cons.mpr ⟨List.mem_cons_of_mem _ (List.mem_append_left _ (List.mem_of_getElem? (i := 9) rfl)), List.forall_mem_cons.mpr ⟨List.mem_cons_of_mem _ (List.mem_append_left _ (List.mem_of_getElem? (i := 3) rfl)), fun _ h => absurd h List.not_mem_nil⟩⟩⟩⟩) (by decide +kernel)) gw_X9_cure_X9_cells
theorem gw_X9_fewest_X9_bits : GoodIn W_X9_fewest W_X9_bits := fun w h => ⟨List.mem_cons_of_mem _ (List.mem_append_right _ (List.mem_append_right _ (List.mem_append_right _ (h)))), (wI_X9_bits w h).2⟩
theorem gc_X9_fewest_418_X9_bits : GoodIn W_X9_fewest (va_wsS RX9 418 yX9_bits W_X9_bits) := goodIn_app (goodIn_sub (List.forall_mem_cons.mpr ⟨List.mem_cons_of_mem _ (List.mem_append_left _ (List.mem_of_getElem? (i := 5) rfl)), List.forall_mem_cons.mpr ⟨List.mem_cons_of_mem _ (List.mem_append_left _ (List.mem_of_getElem? (i := 6) rfl)), List.forall_mem_cons.mpr ⟨List.mem_cons_of_mem _ (List.mem_append_left _ (List.mem_of_getElem? (i := 3) rfl)), fun _ h => absurd h List.not_mem_nil⟩⟩⟩) (by decide +kernel)) gw_X9_fewest_X9_bits
theorem gw_X9_fewest_X9_asksLocks : GoodIn W_X9_fewest W_X9_asksLocks := fun w h => ⟨List.mem_cons_of_mem _ (List.mem_append_right _ (List.mem_append_right _ (List.mem_append_left _ (h)))), (wI_X9_asksLocks w h).2⟩
theorem gc_X9_fewest_424_X9_asksLocks : GoodIn W_X9_fewest (wsV RX9 424 RX9 yX9_asksLocks W_X9_asksLocks) := goodIn_app (goodIn_sub (List.forall_mem_cons.mpr ⟨List.mem_cons_of_mem _ (List.mem_append_left _ (List.mem_of_getElem? (i := 0) rfl)), List.forall_mem_cons.mpr ⟨List.mem_cons_of_mem _ (List.mem_append_left _ (List.mem_of_getElem? (i := 1) rfl)), List.forall_mem_cons.mpr ⟨List.mem_cons_of_mem _ (List.mem_append_left _ (List.mem_of_getElem? (i := 2) rfl)), List.forall_mem_cons.mpr ⟨List.mem_cons_of_mem _ (List.mem_append_left _ (List.mem_of_getElem? (i := 3) rfl)), fun _ h => absurd h List.not_mem_nil⟩⟩⟩⟩) (by decide +kernel)) gw_X9_fewest_X9_asksLocks
theorem gw_X9_findFrom_X9_mergeOf : GoodIn W_X9_findFrom W_X9_mergeOf := fun w h => ⟨List.mem_cons_of_mem _ (List.mem_append_right _ (List.mem_append_right _ (List.mem_append_right _ (List.mem_append_right _ (List.mem_append_left _ (h)))))), (wI_X9_mergeOf w h).2⟩
theorem gc_X9_findFrom_344_X9_mergeOf : GoodIn W_X9_findFrom (wsV RX9 344 RX9 yX9_mergeOf W_X9_mergeOf) := goodIn_app (goodIn_sub (List.forall_mem_cons.mpr ⟨List.mem_cons_of_mem _ (List.mem_append_left _ (List.mem_of_getElem? (i := 10) rfl)), List.forall_mem_cons.mpr ⟨List.mem_cons_of_mem _ (List.mem_append_left _ (List.mem_of_getElem? (i := 11) rfl)), List.forall_mem_cons.mpr ⟨List.mem_cons_of_mem _ (List.mem_append_left _ (List.mem_of_getElem? (i := 12) rfl)), List.forall_mem_cons.mpr ⟨List.mem_cons_of_mem _ (List.mem_append_left _ (List.mem_of_getElem? (i := 3) rfl)), fun _ h => absurd h List.not_mem_nil⟩⟩⟩⟩) (by decide +kernel)) gw_X9_findFrom_X9_mergeOf
theorem gw_X9_findFrom_X9_laySides : GoodIn W_X9_findFrom W_X9_laySides := fun w h => ⟨List.mem_cons_of_mem _ (List.mem_append_right _ (List.mem_append_right _ (List.mem_append_left _ (h)))), (wI_X9_laySides w h).2⟩
theorem gc_X9_findFrom_351_X9_laySides : GoodIn W_X9_findFrom (wsV RX9 351 RX9 yX9_laySides W_X9_laySides) := goodIn_app (goodIn_sub (List.forall_mem_cons.mpr ⟨List.mem_cons_of_mem _ (List.mem_append_left _ (List.mem_of_getElem? (i := 0) rfl)), List.forall_mem_cons.mpr ⟨List.mem_cons_of_mem _ (List.mem_append_left _ (List.mem_of_getElem? (i := 1) rfl)), List.forall_mem_cons.mpr ⟨List.mem_cons_of_mem _ (List.mem_append_left _ (List.mem_of_getElem? (i := 2) rfl)), List.forall_mem_cons.mpr ⟨List.mem_cons_of_mem _ (List.mem_append_left _ (List.mem_of_getElem? (i := 3) rfl)), fun _ h => absurd h List.not_mem_nil⟩⟩⟩⟩) (by decide +kernel)) gw_X9_findFrom_X9_laySides
theorem gw_X9_findFrom_X9_keepBreak : GoodIn W_X9_findFrom W_X9_keepBreak := fun w h => ⟨List.mem_cons_of_mem _ (List.mem_append_right _ (List.mem_append_right _ (List.mem_append_right _ (List.mem_append_right _ (List.mem_append_right _ (h)))))), (wI_X9_keepBreak w h).2⟩
theorem gc_X9_findFrom_382_X9_keepBreak : GoodIn W_X9_findFrom (wsV RX9 382 RX9 yX9_keepBreak W_X9_keepBreak) := goodIn_app (goodIn_sub (List.forall_mem_cons.mpr ⟨List.mem_cons_of_mem _ (List.mem_append_left _ (List.mem_of_getElem? (i := 13) rfl)), List.forall_mem_cons.mpr ⟨List.mem_cons_of_mem _ (List.mem_append_left _ (List.mem_of_getElem? (i := 14) rfl)), List.forall_mem_cons.mpr ⟨List.mem_cons_of_mem _ (List.mem_append_left _ (List.mem_of_getElem? (i := 15) rfl)), List.forall_mem_cons.mpr ⟨List.mem_cons_of_mem _ (List.mem_append_left _ (List.mem_of_getElem? (i := 3) rfl)), fun _ h => absurd h List.not_mem_nil⟩⟩⟩⟩) (by decide +kernel)) gw_X9_findFrom_X9_keepBreak
theorem gw_X9_findFrom_X9_stateMany : GoodIn W_X9_findFrom W_X9_stateMany := fun w h => ⟨List.mem_cons_of_mem _ (List.mem_append_right _ (List.mem_append_right _ (List.mem_append_right _ (List.mem_append_left _ (h))))), (wI_X9_stateMany w h).2⟩
theorem gc_X9_findFrom_96_X9_stateMany : GoodIn W_X9_findFrom (wsV RX9 96 RX9 yX9_stateMany W_X9_stateMany) := goodIn_app (goodIn_sub (List.forall_mem_cons.mpr ⟨List.mem_cons_of_mem _ (List.mem_append_left _ (List.mem_of_getElem? (i := 4) rfl)), List.forall_mem_cons.mpr ⟨List.mem_cons_of_mem _ (List.mem_append_left _ (List.mem_of_getElem? (i := 5) rfl)), List.forall_mem_cons.mpr ⟨List.mem_cons_of_mem _ (List.mem_append_left _ (List.mem_of_getElem? (i := 6) rfl)), List.forall_mem_cons.mpr ⟨List.mem_cons_of_mem _ (List.mem_append_left _ (List.mem_of_getElem? (i := 3) rfl)), fun _ h => absurd h List.not_mem_nil⟩⟩⟩⟩) (by decide +kernel)) gw_X9_findFrom_X9_stateMany
theorem gw_X9_findLocks_X9_bits : GoodIn W_X9_findLocks W_X9_bits := fun w h => ⟨List.mem_cons_of_mem _ (List.mem_append_right _ (List.mem_append_right _ (List.mem_append_right _ (List.mem_append_right _ (h))))), (wI_X9_bits w h).2⟩
theorem gc_X9_findLocks_418_X9_bits : GoodIn W_X9_findLocks (va_wsS RX9 418 yX9_bits W_X9_bits) := goodIn_app (goodIn_sub (List.forall_mem_cons.mpr ⟨List.mem_cons_of_mem _ (List.mem_append_left _ (List.mem_of_getElem? (i := 10) rfl)), List.forall_mem_cons.mpr ⟨List.mem_cons_of_mem _ (List.mem_append_left _ (List.mem_of_getElem? (i := 11) rfl)), List.forall_mem_cons.mpr ⟨List.mem_cons_of_mem _ (List.mem_append_left _ (List.mem_of_getElem? (i := 4) rfl)), fun _ h => absurd h List.not_mem_nil⟩⟩⟩) (by decide +kernel)) gw_X9_findLocks_X9_bits
theorem gw_X9_findLocks_X9_isSafeBy : GoodIn W_X9_findLocks W_X9_isSafeBy := fun w h => ⟨List.mem_cons_of_mem _ (List.mem_append_right _ (List.mem_append_right _ (List.mem_append_right _ (List.mem_append_left _ (h))))), (wI_X9_isSafeBy w h).2⟩
theorem gc_X9_findLocks_405_X9_isSafeBy : GoodIn W_X9_findLocks (wsV RX9 405 RX9 yX9_isSafeBy W_X9_isSafeBy) := goodIn_app (goodIn_sub (List.forall_mem_cons.mpr ⟨List.mem_cons_of_mem _ (List.mem_append_left _ (List.mem_of_getElem? (i := 7) rfl)), List.forall_mem_cons.mpr ⟨List.mem_cons_of_mem _ (List.mem_append_left _ (List.mem_of_getElem? (i := 8) rfl)), List.forall_mem_cons.mpr ⟨List.mem_cons_of_mem _ (List.mem_append_left _ (List.mem_of_getElem? (i := 9) rfl)), List.forall_mem_cons.mpr ⟨List.mem_cons_of_mem _ (List.mem_append_left _ (List.mem_of_getElem? (i := 4) rfl)), fun _ h => absurd h List.not_mem_nil⟩⟩⟩⟩) (by decide +kernel)) gw_X9_findLocks_X9_isSafeBy
theorem gw_X9_findLocks_X9_allOps : GoodIn W_X9_findLocks W_X9_allOps := fun w h => ⟨List.mem_cons_of_mem _ (List.mem_append_right _ (List.mem_append_right _ (List.mem_append_left _ (h)))), (wI_X9_allOps w h).2⟩
theorem gc_X9_findLocks_412_X9_allOps : GoodIn W_X9_findLocks (wsV RX9 412 RX9 yX9_allOps W_X9_allOps) := goodIn_app (goodIn_sub (List.forall_mem_cons.mpr ⟨List.mem_cons_of_mem _ (List.mem_append_left _ (List.mem_of_getElem? (i := 1) rfl)), List.forall_mem_cons.mpr ⟨List.mem_cons_of_mem _ (List.mem_append_left _ (List.mem_of_getElem? (i := 2) rfl)), List.forall_mem_cons.mpr ⟨List.mem_cons_of_mem _ (List.mem_append_left _ (List.mem_of_getElem? (i := 3) rfl)), List.forall_mem_cons.mpr ⟨List.mem_cons_of_mem _ (List.mem_append_left _ (List.mem_of_getElem? (i := 4) rfl)), fun _ h => absurd h List.not_mem_nil⟩⟩⟩⟩) (by decide +kernel)) gw_X9_findLocks_X9_allOps
theorem gw_X9_fine_X9_isDepth : GoodIn W_X9_fine W_X9_isDepth := fun w h => ⟨List.mem_cons_of_mem _ (List.mem_append_right _ (List.mem_append_right _ (List.mem_append_right _ (List.mem_append_left _ (h))))), (wI_X9_isDepth w h).2⟩
theorem gc_X9_fine_357_X9_isDepth : GoodIn W_X9_fine (va_wsS RX9 357 yX9_isDepth W_X9_isDepth) := goodIn_app (goodIn_sub (List.forall_mem_cons.mpr ⟨List.mem_cons_of_mem _ (List.mem_append_left _ (List.mem_of_getElem? (i := 4) rfl)), List.forall_mem_cons.mpr ⟨List.mem_cons_of_mem _ (List.mem_append_left _ (List.mem_of_getElem? (i := 5) rfl)), List.forall_mem_cons.mpr ⟨List.mem_cons_of_mem _ (List.mem_append_left _ (List.mem_of_getElem? (i := 3) rfl)), fun _ h => absurd h List.not_mem_nil⟩⟩⟩) (by decide +kernel)) gw_X9_fine_X9_isDepth
theorem gw_X9_fine_X9_asks : GoodIn W_X9_fine W_X9_asks := fun w h => ⟨List.mem_cons_of_mem _ (List.mem_append_right _ (List.mem_append_right _ (List.mem_append_left _ (h)))), (wI_X9_asks w h).2⟩
theorem gc_X9_fine_318_X9_asks : GoodIn W_X9_fine (wsV RX9 318 RX9 yX9_asks W_X9_asks) := goodIn_app (goodIn_sub (List.forall_mem_cons.mpr ⟨List.mem_cons_of_mem _ (List.mem_append_left _ (List.mem_of_getElem? (i := 0) rfl)), List.forall_mem_cons.mpr ⟨List.mem_cons_of_mem _ (List.mem_append_left _ (List.mem_of_getElem? (i := 1) rfl)), List.forall_mem_cons.mpr ⟨List.mem_cons_of_mem _ (List.mem_append_left _ (List.mem_of_getElem? (i := 2) rfl)), List.forall_mem_cons.mpr ⟨List.mem_cons_of_mem _ (List.mem_append_left _ (List.mem_of_getElem? (i := 3) rfl)), fun _ h => absurd h List.not_mem_nil⟩⟩⟩⟩) (by decide +kernel)) gw_X9_fine_X9_asks
theorem gw_X9_fine_X9_allRules : GoodIn W_X9_fine W_X9_allRules := fun w h => ⟨List.mem_cons_of_mem _ (List.mem_append_right _ (List.mem_append_right _ (List.mem_append_right _ (List.mem_append_right _ (List.mem_append_right _ (List.mem_append_left _ (h))))))), (wI_X9_allRules w h).2⟩
theorem gc_X9_fine_402_X9_allRules : GoodIn W_X9_fine (wsV RX9 402 RX9 yX9_allRules W_X9_allRules) := goodIn_app (goodIn_sub (List.forall_mem_cons.mpr ⟨List.mem_cons_of_mem _ (List.mem_append_left _ (List.mem_of_getElem? (i := 9) rfl)), List.forall_mem_cons.mpr ⟨List.mem_cons_of_mem _ (List.mem_append_left _ (List.mem_of_getElem? (i := 10) rfl)), List.forall_mem_cons.mpr ⟨List.mem_cons_of_mem _ (List.mem_append_left _ (List.mem_of_getElem? (i := 11) rfl)), List.forall_mem_cons.mpr ⟨List.mem_cons_of_mem _ (List.mem_append_left _ (List.mem_of_getElem? (i := 3) rfl)), fun _ h => absurd h List.not_mem_nil⟩⟩⟩⟩) (by decide +kernel)) gw_X9_fine_X9_allRules
theorem gw_X9_fine_X9_isSafeBy : GoodIn W_X9_fine W_X9_isSafeBy := fun w h => ⟨List.mem_cons_of_mem _ (List.mem_append_right _ (List.mem_append_right _ (List.mem_append_right _ (List.mem_append_right _ (List.mem_append_right _ (List.mem_append_right _ (h))))))), (wI_X9_isSafeBy w h).2⟩
theorem gc_X9_fine_405_X9_isSafeBy : GoodIn W_X9_fine (wsV RX9 405 RX9 yX9_isSafeBy W_X9_isSafeBy) := goodIn_app (goodIn_sub (List.forall_mem_cons.mpr ⟨List.mem_cons_of_mem _ (List.mem_append_left _ (List.mem_of_getElem? (i := 13) rfl)), List.forall_mem_cons.mpr ⟨List.mem_cons_of_mem _ (List.mem_append_left _ (List.mem_of_getElem? (i := 14) rfl)), List.forall_mem_cons.mpr ⟨List.mem_cons_of_mem _ (List.mem_append_left _ (List.mem_of_getElem? (i := 15) rfl)), List.forall_mem_cons.mpr ⟨List.mem_cons_of_mem _ (List.mem_append_left _ (List.mem_of_getElem? (i := 3) rfl)), fun _ h => absurd h List.not_mem_nil⟩⟩⟩⟩) (by decide +kernel)) gw_X9_fine_X9_isSafeBy
theorem gw_X9_fine_X9_rules : GoodIn W_X9_fine W_X9_rules := fun w h => ⟨List.mem_cons_of_mem _ (List.mem_append_right _ (List.mem_append_right _ (List.mem_append_right _ (List.mem_append_right _ (List.mem_append_left _ (h)))))), (wI_X9_rules w h).2⟩
theorem gc_X9_fine_80_X9_rules : GoodIn W_X9_fine (wsV RX9 80 RX9 yX9_rules W_X9_rules) := goodIn_app (goodIn_sub (List.forall_mem_cons.mpr ⟨List.mem_cons_of_mem _ (List.mem_append_left _ (List.mem_of_getElem? (i := 6) rfl)), List.forall_mem_cons.mpr ⟨List.mem_cons_of_mem _ (List.mem_append_left _ (List.mem_of_getElem? (i := 7) rfl)), List.forall_mem_cons.mpr ⟨List.mem_cons_of_mem _ (List.mem_append_left _ (List.mem_of_getElem? (i := 8) rfl)), List.forall_mem_cons.mpr ⟨List.mem_cons_of_mem _ (List.mem_append_left _ (List.mem_of_getElem? (i := 3) rfl)), fun _ h => absurd h List.not_mem_nil⟩⟩⟩⟩) (by decide +kernel)) gw_X9_fine_X9_rules
theorem gw_X9_fits_X9_askFits : GoodIn W_X9_fits W_X9_askFits := fun w h => ⟨List.mem_cons_of_mem _ (List.mem_append_right _ (List.mem_append_right _ (h))), (wI_X9_askFits w h).2⟩
theorem gc_X9_fits_449_X9_askFits : GoodIn W_X9_fits (wsV RX9 449 RX9 yX9_askFits W_X9_askFits) := goodIn_app (goodIn_sub (List.forall_mem_cons.mpr ⟨List.mem_cons_of_mem _ (List.mem_append_left _ (List.mem_of_getElem? (i := 0) rfl)), List.forall_mem_cons.mpr ⟨List.mem_cons_of_mem _ (List.mem_append_left _ (List.mem_of_getElem? (i := 1) rfl)), List.forall_mem_cons.mpr ⟨List.mem_cons_of_mem _ (List.mem_append_left _ (List.mem_of_getElem? (i := 2) rfl)), List.forall_mem_cons.mpr ⟨List.mem_cons_of_mem _ (List.mem_append_left _ (List.mem_of_getElem? (i := 3) rfl)), fun _ h => absurd h List.not_mem_nil⟩⟩⟩⟩) (by decide +kernel)) gw_X9_fits_X9_askFits
theorem gw_X9_hits_X9_isRule : GoodIn W_X9_hits W_X9_isRule := fun w h => ⟨List.mem_cons_of_mem _ (List.mem_append_right _ (List.mem_append_right _ (List.mem_append_right _ (h)))), (wI_X9_isRule w h).2⟩
theorem gc_X9_hits_256_X9_isRule : GoodIn W_X9_hits (wsV RX9 256 RX9 yX9_isRule W_X9_isRule) := goodIn_app (goodIn_sub (List.forall_mem_cons.mpr ⟨List.mem_cons_of_mem _ (List.mem_append_left _ (List.mem_of_getElem? (i := 4) rfl)), List.forall_mem_cons.mpr ⟨List.mem_cons_of_mem _ (List.mem_append_left _ (List.mem_of_getElem? (i := 5) rfl)), List.forall_mem_cons.mpr ⟨List.mem_cons_of_mem _ (List.mem_append_left _ (List.mem_of_getElem? (i := 6) rfl)), List.forall_mem_cons.mpr ⟨List.mem_cons_of_mem _ (List.mem_append_left _ (List.mem_of_getElem? (i := 3) rfl)), fun _ h => absurd h List.not_mem_nil⟩⟩⟩⟩) (by decide +kernel)) gw_X9_hits_X9_isRule
theorem gw_X9_hits_X9_asksIn : GoodIn W_X9_hits W_X9_asksIn := fun w h => ⟨List.mem_cons_of_mem _ (List.mem_append_right _ (List.mem_append_right _ (List.mem_append_left _ (h)))), (wI_X9_asksIn w h).2⟩
theorem gc_X9_hits_399_X9_asksIn : GoodIn W_X9_hits (wsV RX9 399 RX9 yX9_asksIn W_X9_asksIn) := goodIn_app (goodIn_sub (List.forall_mem_cons.mpr ⟨List.mem_cons_of_mem _ (List.mem_append_left _ (List.mem_of_getElem? (i := 0) rfl)), List.forall_mem_cons.mpr ⟨List.mem_cons_of_mem _ (List.mem_append_left _ (List.mem_of_getElem? (i := 1) rfl)), List.forall_mem_cons.mpr ⟨List.mem_cons_of_mem _ (List.mem_append_left _ (List.mem_of_getElem? (i := 2) rfl)), List.forall_mem_cons.mpr ⟨List.mem_cons_of_mem _ (List.mem_append_left _ (List.mem_of_getElem? (i := 3) rfl)), fun _ h => absurd h List.not_mem_nil⟩⟩⟩⟩) (by decide +kernel)) gw_X9_hits_X9_asksIn
theorem gw_X9_hot_X9_isDepth : GoodIn W_X9_hot W_X9_isDepth := fun w h => ⟨List.mem_cons_of_mem _ (List.mem_append_right _ (List.mem_append_right _ (List.mem_append_right _ (List.mem_append_left _ (h))))), (wI_X9_isDepth w h).2⟩
theorem gc_X9_hot_357_X9_isDepth : GoodIn W_X9_hot (va_wsS RX9 357 yX9_isDepth W_X9_isDepth) := goodIn_app (goodIn_sub (List.forall_mem_cons.mpr ⟨List.mem_cons_of_mem _ (List.mem_append_left _ (List.mem_of_getElem? (i := 4) rfl)), List.forall_mem_cons.mpr ⟨List.mem_cons_of_mem _ (List.mem_append_left _ (List.mem_of_getElem? (i := 5) rfl)), List.forall_mem_cons.mpr ⟨List.mem_cons_of_mem _ (List.mem_append_left _ (List.mem_of_getElem? (i := 3) rfl)), fun _ h => absurd h List.not_mem_nil⟩⟩⟩) (by decide +kernel)) gw_X9_hot_X9_isDepth
theorem gw_X9_hot_X9_asks : GoodIn W_X9_hot W_X9_asks := fun w h => ⟨List.mem_cons_of_mem _ (List.mem_append_right _ (List.mem_append_right _ (List.mem_append_left _ (h)))), (wI_X9_asks w h).2⟩
theorem gc_X9_hot_318_X9_asks : GoodIn W_X9_hot (wsV RX9 318 RX9 yX9_asks W_X9_asks) := goodIn_app (goodIn_sub (List.forall_mem_cons.mpr ⟨List.mem_cons_of_mem _ (List.mem_append_left _ (List.mem_of_getElem? (i := 0) rfl)), List.forall_mem_cons.mpr ⟨List.mem_cons_of_mem _ (List.mem_append_left _ (List.mem_of_getElem? (i := 1) rfl)), List.forall_mem_cons.mpr ⟨List.mem_cons_of_mem _ (List.mem_append_left _ (List.mem_of_getElem? (i := 2) rfl)), List.forall_mem_cons.mpr ⟨List.mem_cons_of_mem _ (List.mem_append_left _ (List.mem_of_getElem? (i := 3) rfl)), fun _ h => absurd h List.not_mem_nil⟩⟩⟩⟩) (by decide +kernel)) gw_X9_hot_X9_asks
theorem gw_X9_hot_X9_breaksFrom : GoodIn W_X9_hot W_X9_breaksFrom := fun w h => ⟨List.mem_cons_of_mem _ (List.mem_append_right _ (List.mem_append_right _ (List.mem_append_right _ (List.mem_append_right _ (List.mem_append_right _ (h)))))), (wI_X9_breaksFrom w h).2⟩
theorem gc_X9_hot_396_X9_breaksFrom : GoodIn W_X9_hot (wsV RX9 396 RX9 yX9_breaksFrom W_X9_breaksFrom) := goodIn_app (goodIn_sub (List.forall_mem_cons.mpr ⟨List.mem_cons_of_mem _ (List.mem_append_left _ (List.mem_of_getElem? (i := 9) rfl)), List.forall_mem_cons.mpr ⟨List.mem_cons_of_mem _ (List.mem_append_left _ (List.mem_of_getElem? (i := 10) rfl)), List.forall_mem_cons.mpr ⟨List.mem_cons_of_mem _ (List.mem_append_left _ (List.mem_of_getElem? (i := 11) rfl)), List.forall_mem_cons.mpr ⟨List.mem_cons_of_mem _ (List.mem_append_left _ (List.mem_of_getElem? (i := 3) rfl)), fun _ h => absurd h List.not_mem_nil⟩⟩⟩⟩) (by decide +kernel)) gw_X9_hot_X9_breaksFrom
theorem gw_X9_hot_X9_stateMany : GoodIn W_X9_hot W_X9_stateMany := fun w h => ⟨List.mem_cons_of_mem _ (List.mem_append_right _ (List.mem_append_right _ (List.mem_append_right _ (List.mem_append_right _ (List.mem_append_left _ (h)))))), (wI_X9_stateMany w h).2⟩
theorem gc_X9_hot_96_X9_stateMany : GoodIn W_X9_hot (wsV RX9 96 RX9 yX9_stateMany W_X9_stateMany) := goodIn_app (goodIn_sub (List.forall_mem_cons.mpr ⟨List.mem_cons_of_mem _ (List.mem_append_left _ (List.mem_of_getElem? (i := 6) rfl)), List.forall_mem_cons.mpr ⟨List.mem_cons_of_mem _ (List.mem_append_left _ (List.mem_of_getElem? (i := 7) rfl)), List.forall_mem_cons.mpr ⟨List.mem_cons_of_mem _ (List.mem_append_left _ (List.mem_of_getElem? (i := 8) rfl)), List.forall_mem_cons.mpr ⟨List.mem_cons_of_mem _ (List.mem_append_left _ (List.mem_of_getElem? (i := 3) rfl)), fun _ h => absurd h List.not_mem_nil⟩⟩⟩⟩) (by decide +kernel)) gw_X9_hot_X9_stateMany
theorem gw_X9_isSafeBy_X9_layStates : GoodIn W_X9_isSafeBy W_X9_layStates := fun w h => ⟨List.mem_cons_of_mem _ (List.mem_append_right _ (List.mem_append_right _ (List.mem_append_left _ (h)))), (wI_X9_layStates w h).2⟩
theorem gc_X9_isSafeBy_311_X9_layStates : GoodIn W_X9_isSafeBy (wsV RX9 311 RX9 yX9_layStates W_X9_layStates) := goodIn_app (goodIn_sub (List.forall_mem_cons.mpr ⟨List.mem_cons_of_mem _ (List.mem_append_left _ (List.mem_of_getElem? (i := 2) rfl)), List.forall_mem_cons.mpr ⟨List.mem_cons_of_mem _ (List.mem_append_left _ (List.mem_of_getElem? (i := 3) rfl)), List.forall_mem_cons.mpr ⟨List.mem_cons_of_mem _ (List.mem_append_left _ (List.mem_of_getElem? (i := 4) rfl)), List.forall_mem_cons.mpr ⟨List.mem_cons_of_mem _ (List.mem_append_left _ (List.mem_of_getElem? (i := 5) rfl)), fun _ h => absurd h List.not_mem_nil⟩⟩⟩⟩) (by decide +kernel)) gw_X9_isSafeBy_X9_layStates
theorem gw_X9_isSafeBy_X9_breaksIn : GoodIn W_X9_isSafeBy W_X9_breaksIn := fun w h => ⟨List.mem_cons_of_mem _ (List.mem_append_right _ (List.mem_append_right _ (List.mem_append_right _ (h)))), (wI_X9_breaksIn w h).2⟩
theorem gc_X9_isSafeBy_393_X9_breaksIn : GoodIn W_X9_isSafeBy (wsV RX9 393 RX9 yX9_breaksIn W_X9_breaksIn) := goodIn_app (goodIn_sub (List.forall_mem_cons.mpr ⟨List.mem_cons_of_mem _ (List.mem_append_left _ (List.mem_of_getElem? (i := 6) rfl)), List.forall_mem_cons.mpr ⟨List.mem_cons_of_mem _ (List.mem_append_left _ (List.mem_of_getElem? (i := 7) rfl)), List.forall_mem_cons.mpr ⟨List.mem_cons_of_mem _ (List.mem_append_left _ (List.mem_of_getElem? (i := 8) rfl)), List.forall_mem_cons.mpr ⟨List.mem_cons_of_mem _ (List.mem_append_left _ (List.mem_of_getElem? (i := 5) rfl)), fun _ h => absurd h List.not_mem_nil⟩⟩⟩⟩) (by decide +kernel)) gw_X9_isSafeBy_X9_breaksIn
theorem gw_X9_keepBreak_X9_bit : GoodIn W_X9_keepBreak W_X9_bit := fun w h => ⟨List.mem_cons_of_mem _ (List.mem_append_right _ (List.mem_append_right _ (List.mem_append_right _ (List.mem_append_right _ (List.mem_append_left _ (h)))))), (wI_X9_bit w h).2⟩
theorem gc_X9_keepBreak_288_X9_bit : GoodIn W_X9_keepBreak (va_wsS RX9 288 yX9_bit W_X9_bit) := goodIn_app (goodIn_sub (List.forall_mem_cons.mpr ⟨List.mem_cons_of_mem _ (List.mem_append_left _ (List.mem_of_getElem? (i := 11) rfl)), List.forall_mem_cons.mpr ⟨List.mem_cons_of_mem _ (List.mem_append_left _ (List.mem_of_getElem? (i := 12) rfl)), List.forall_mem_cons.mpr ⟨List.mem_cons_of_mem _ (List.mem_append_left _ (List.mem_of_getElem? (i := 5) rfl)), fun _ h => absurd h List.not_mem_nil⟩⟩⟩) (by decide +kernel)) gw_X9_keepBreak_X9_bit
theorem gw_X9_keepBreak_X9_holdsIn : GoodIn W_X9_keepBreak W_X9_holdsIn := fun w h => ⟨List.mem_cons_of_mem _ (List.mem_append_right _ (List.mem_append_right _ (List.mem_append_right _ (List.mem_append_right _ (List.mem_append_right _ (h)))))), (wI_X9_holdsIn w h).2⟩
theorem gc_X9_keepBreak_291_X9_holdsIn : GoodIn W_X9_keepBreak (wsV RX9 291 RX9 yX9_holdsIn W_X9_holdsIn) := goodIn_app (goodIn_sub (List.forall_mem_cons.mpr ⟨List.mem_cons_of_mem _ (List.mem_append_left _ (List.mem_of_getElem? (i := 13) rfl)), List.forall_mem_cons.mpr ⟨List.mem_cons_of_mem _ (List.mem_append_left _ (List.mem_of_getElem? (i := 14) rfl)), List.forall_mem_cons.mpr ⟨List.mem_cons_of_mem _ (List.mem_append_left _ (List.mem_of_getElem? (i := 15) rfl)), List.forall_mem_cons.mpr ⟨List.mem_cons_of_mem _ (List.mem_append_left _ (List.mem_of_getElem? (i := 5) rfl)), fun _ h => absurd h List.not_mem_nil⟩⟩⟩⟩) (by decide +kernel)) gw_X9_keepBreak_X9_holdsIn
theorem gw_X9_keepBreak_X9_mergeOf : GoodIn W_X9_keepBreak W_X9_mergeOf := fun w h => ⟨List.mem_cons_of_mem _ (List.mem_append_right _ (List.mem_append_right _ (List.mem_append_left _ (h)))), (wI_X9_mergeOf w h).2⟩
theorem gc_X9_keepBreak_344_X9_mergeOf : GoodIn W_X9_keepBreak (wsV RX9 344 RX9 yX9_mergeOf W_X9_mergeOf) := goodIn_app (goodIn_sub (List.forall_mem_cons.mpr ⟨List.mem_cons_of_mem _ (List.mem_append_left _ (List.mem_of_getElem? (i := 2) rfl)), List.forall_mem_cons.mpr ⟨List.mem_cons_of_mem _ (List.mem_append_left _ (List.mem_of_getElem? (i := 3) rfl)), List.forall_mem_cons.mpr ⟨List.mem_cons_of_mem _ (List.mem_append_left _ (List.mem_of_getElem? (i := 4) rfl)), List.forall_mem_cons.mpr ⟨List.mem_cons_of_mem _ (List.mem_append_left _ (List.mem_of_getElem? (i := 5) rfl)), fun _ h => absurd h List.not_mem_nil⟩⟩⟩⟩) (by decide +kernel)) gw_X9_keepBreak_X9_mergeOf
theorem gw_X9_keepBreak_X9_rules : GoodIn W_X9_keepBreak W_X9_rules := fun w h => ⟨List.mem_cons_of_mem _ (List.mem_append_right _ (List.mem_append_right _ (List.mem_append_right _ (List.mem_append_left _ (h))))), (wI_X9_rules w h).2⟩
theorem gc_X9_keepBreak_80_X9_rules : GoodIn W_X9_keepBreak (wsV RX9 80 RX9 yX9_rules W_X9_rules) := goodIn_app (goodIn_sub (List.forall_mem_cons.mpr ⟨List.mem_cons_of_mem _ (List.mem_append_left _ (List.mem_of_getElem? (i := 6) rfl)), List.forall_mem_cons.mpr ⟨List.mem_cons_of_mem _ (List.mem_append_left _ (List.mem_of_getElem? (i := 7) rfl)), List.forall_mem_cons.mpr ⟨List.mem_cons_of_mem _ (List.mem_append_left _ (List.mem_of_getElem? (i := 8) rfl)), List.forall_mem_cons.mpr ⟨List.mem_cons_of_mem _ (List.mem_append_left _ (List.mem_of_getElem? (i := 5) rfl)), fun _ h => absurd h List.not_mem_nil⟩⟩⟩⟩) (by decide +kernel)) gw_X9_keepBreak_X9_rules
theorem gw_X9_known_X9_in : GoodIn W_X9_known W_X9_in := fun w h => ⟨List.mem_cons_of_mem _ (List.mem_append_right _ (List.mem_append_right _ (List.mem_append_right _ (List.mem_append_right _ (h))))), (wI_X9_in w h).2⟩
theorem gc_X9_known_76_X9_in : GoodIn W_X9_known (va_wsS RX9 76 yX9_in W_X9_in) := goodIn_app (goodIn_sub (List.forall_mem_cons.mpr ⟨List.mem_cons_of_mem _ (List.mem_append_left _ (List.mem_of_getElem? (i := 7) rfl)), List.forall_mem_cons.mpr ⟨List.mem_cons_of_mem _ (List.mem_append_left _ (List.mem_of_getElem? (i := 8) rfl)), List.forall_mem_cons.mpr ⟨List.mem_cons_of_mem _ (List.mem_append_left _ (List.mem_of_getElem? (i := 3) rfl)), fun _ h => absurd h List.not_mem_nil⟩⟩⟩) (by decide +kernel)) gw_X9_known_X9_in
theorem gw_X9_known_X9_isRule : GoodIn W_X9_known W_X9_isRule := fun w h => ⟨List.mem_cons_of_mem _ (List.mem_append_right _ (List.mem_append_right _ (List.mem_append_left _ (h)))), (wI_X9_isRule w h).2⟩
theorem gc_X9_known_256_X9_isRule : GoodIn W_X9_known (wsV RX9 256 RX9 yX9_isRule W_X9_isRule) := goodIn_app (goodIn_sub (List.forall_mem_cons.mpr ⟨List.mem_cons_of_mem _ (List.mem_append_left _ (List.mem_of_getElem? (i := 0) rfl)), List.forall_mem_cons.mpr ⟨List.mem_cons_of_mem _ (List.mem_append_left _ (List.mem_of_getElem? (i := 1) rfl)), List.forall_mem_cons.mpr ⟨List.mem_cons_of_mem _ (List.mem_append_left _ (List.mem_of_getElem? (i := 2) rfl)), List.forall_mem_cons.mpr ⟨List.mem_cons_of_mem _ (List.mem_append_left _ (List.mem_of_getElem? (i := 3) rfl)), fun _ h => absurd h List.not_mem_nil⟩⟩⟩⟩) (by decide +kernel)) gw_X9_known_X9_isRule
theorem gw_X9_known_X9_ruleOf : GoodIn W_X9_known W_X9_ruleOf := fun w h => ⟨List.mem_cons_of_mem _ (List.mem_append_right _ (List.mem_append_right _ (List.mem_append_right _ (List.mem_append_left _ (h))))), (wI_X9_ruleOf w h).2⟩
theorem gc_X9_known_261_X9_ruleOf : GoodIn W_X9_known (wsV RX9 261 RX9 yX9_ruleOf W_X9_ruleOf) := goodIn_app (goodIn_sub (List.forall_mem_cons.mpr ⟨List.mem_cons_of_mem _ (List.mem_append_left _ (List.mem_of_getElem? (i := 4) rfl)), List.forall_mem_cons.mpr ⟨List.mem_cons_of_mem _ (List.mem_append_left _ (List.mem_of_getElem? (i := 5) rfl)), List.forall_mem_cons.mpr ⟨List.mem_cons_of_mem _ (List.mem_append_left _ (List.mem_of_getElem? (i := 6) rfl)), List.forall_mem_cons.mpr ⟨List.mem_cons_of_mem _ (List.mem_append_left _ (List.mem_of_getElem? (i := 3) rfl)), fun _ h => absurd h List.not_mem_nil⟩⟩⟩⟩) (by decide +kernel)) gw_X9_known_X9_ruleOf
theorem gw_X9_law_X9_asks : GoodIn W_X9_law W_X9_asks := fun w h => ⟨List.mem_cons_of_mem _ (List.mem_append_right _ (List.mem_append_left _ (h))), (wI_X9_asks w h).2⟩
theorem gc_X9_law_318_X9_asks : GoodIn W_X9_law (wsV RX9 318 RX9 yX9_asks W_X9_asks) := goodIn_app (goodIn_sub (List.forall_mem_cons.mpr ⟨List.mem_cons_of_mem _ (List.mem_append_left _ (List.mem_of_getElem? (i := 0) rfl)), List.forall_mem_cons.mpr ⟨List.mem_cons_of_mem _ (List.mem_append_left _ (List.mem_of_getElem? (i := 1) rfl)), List.forall_mem_cons.mpr ⟨List.mem_cons_of_mem _ (List.mem_append_left _ (List.mem_of_getElem? (i := 2) rfl)), List.forall_mem_cons.mpr ⟨List.mem_cons_of_mem _ (List.mem_append_left _ (List.mem_of_getElem? (i := 3) rfl)), fun _ h => absurd h List.not_mem_nil⟩⟩⟩⟩) (by decide +kernel)) gw_X9_law_X9_asks
theorem gw_X9_law_X9_breaksByLaw : GoodIn W_X9_law W_X9_breaksByLaw := fun w h => ⟨List.mem_cons_of_mem _ (List.mem_append_right _ (List.mem_append_right _ (h))), (wI_X9_breaksByLaw w h).2⟩
theorem gc_X9_law_452_X9_breaksByLaw : GoodIn W_X9_law (wsV RX9 452 RX9 yX9_breaksByLaw W_X9_breaksByLaw) := goodIn_app (goodIn_sub (List.forall_mem_cons.mpr ⟨List.mem_cons_of_mem _ (List.mem_append_left _ (List.mem_of_getElem? (i := 4) rfl)), List.forall_mem_cons.mpr ⟨List.mem_cons_of_mem _ (List.mem_append_left _ (List.mem_of_getElem? (i := 5) rfl)), List.forall_mem_cons.mpr ⟨List.mem_cons_of_mem _ (List.mem_append_left _ (List.mem_of_getElem? (i := 6) rfl)), List.forall_mem_cons.mpr ⟨List.mem_cons_of_mem _ (List.mem_append_left _ (List.mem_of_getElem? (i := 3) rfl)), fun _ h => absurd h List.not_mem_nil⟩⟩⟩⟩) (by decide +kernel)) gw_X9_law_X9_breaksByLaw
theorem gw_X9_laws_X9_askSeen : GoodIn W_X9_laws W_X9_askSeen := fun w h => ⟨List.mem_cons_of_mem _ (List.mem_append_right _ (List.mem_append_right _ (List.mem_append_left _ (h)))), (wI_X9_askSeen w h).2⟩
theorem gc_X9_laws_443_X9_askSeen : GoodIn W_X9_laws (wsV RX9 443 RX9 yX9_askSeen W_X9_askSeen) := goodIn_app (goodIn_sub (List.forall_mem_cons.mpr ⟨List.mem_cons_of_mem _ (List.mem_append_left _ (List.mem_of_getElem? (i := 0) rfl)), List.forall_mem_cons.mpr ⟨List.mem_cons_of_mem _ (List.mem_append_left _ (List.mem_of_getElem? (i := 1) rfl)), List.forall_mem_cons.mpr ⟨List.mem_cons_of_mem _ (List.mem_append_left _ (List.mem_of_getElem? (i := 2) rfl)), List.forall_mem_cons.mpr ⟨List.mem_cons_of_mem _ (List.mem_append_left _ (List.mem_of_getElem? (i := 3) rfl)), fun _ h => absurd h List.not_mem_nil⟩⟩⟩⟩) (by decide +kernel)) gw_X9_laws_X9_askSeen
theorem gw_X9_laws_X9_layFits : GoodIn W_X9_laws W_X9_layFits := fun w h => ⟨List.mem_cons_of_mem _ (List.mem_append_right _ (List.mem_append_right _ (List.mem_append_right _ (h)))), (wI_X9_layFits w h).2⟩
theorem gc_X9_laws_446_X9_layFits : GoodIn W_X9_laws (wsV RX9 446 RX9 yX9_layFits W_X9_layFits) := goodIn_app (goodIn_sub (List.forall_mem_cons.mpr ⟨List.mem_cons_of_mem _ (List.mem_append_left _ (List.mem_of_getElem? (i := 5) rfl)), List.forall_mem_cons.mpr ⟨List.mem_cons_of_mem _ (List.mem_append_left _ (List.mem_of_getElem? (i := 6) rfl)), List.forall_mem_cons.mpr ⟨List.mem_cons_of_mem _ (List.mem_append_left _ (List.mem_of_getElem? (i := 7) rfl)), List.forall_mem_cons.mpr ⟨List.mem_cons_of_mem _ (List.mem_append_left _ (List.mem_of_getElem? (i := 3) rfl)), fun _ h => absurd h List.not_mem_nil⟩⟩⟩⟩) (by decide +kernel)) gw_X9_laws_X9_layFits
theorem gw_X9_layFits_X9_mergeOf : GoodIn W_X9_layFits W_X9_mergeOf := fun w h => ⟨List.mem_cons_of_mem _ (List.mem_append_right _ (List.mem_append_right _ (List.mem_append_right _ (List.mem_append_right _ (h))))), (wI_X9_mergeOf w h).2⟩
theorem gc_X9_layFits_344_X9_mergeOf : GoodIn W_X9_layFits (wsV RX9 344 RX9 yX9_mergeOf W_X9_mergeOf) := goodIn_app (goodIn_sub (List.forall_mem_cons.mpr ⟨List.mem_cons_of_mem _ (List.mem_append_left _ (List.mem_of_getElem? (i := 11) rfl)), List.forall_mem_cons.mpr ⟨List.mem_cons_of_mem _ (List.mem_append_left _ (List.mem_of_getElem? (i := 12) rfl)), List.forall_mem_cons.mpr ⟨List.mem_cons_of_mem _ (List.mem_append_left _ (List.mem_of_getElem? (i := 13) rfl)), List.forall_mem_cons.mpr ⟨List.mem_cons_of_mem _ (List.mem_append_left _ (List.mem_of_getElem? (i := 5) rfl)), fun _ h => absurd h List.not_mem_nil⟩⟩⟩⟩) (by decide +kernel)) gw_X9_layFits_X9_mergeOf
theorem gw_X9_layFits_X9_numberAt : GoodIn W_X9_layFits W_X9_numberAt := fun w h => ⟨List.mem_cons_of_mem _ (List.mem_append_right _ (List.mem_append_right _ (List.mem_append_right _ (List.mem_append_left _ (h))))), (wI_X9_numberAt w h).2⟩
theorem gc_X9_layFits_433_X9_numberAt : GoodIn W_X9_layFits (wsV RX9 433 RX9 yX9_numberAt W_X9_numberAt) := goodIn_app (goodIn_sub (List.forall_mem_cons.mpr ⟨List.mem_cons_of_mem _ (List.mem_append_left _ (List.mem_of_getElem? (i := 8) rfl)), List.forall_mem_cons.mpr ⟨List.mem_cons_of_mem _ (List.mem_append_left _ (List.mem_of_getElem? (i := 9) rfl)), List.forall_mem_cons.mpr ⟨List.mem_cons_of_mem _ (List.mem_append_left _ (List.mem_of_getElem? (i := 10) rfl)), List.forall_mem_cons.mpr ⟨List.mem_cons_of_mem _ (List.mem_append_left _ (List.mem_of_getElem? (i := 5) rfl)), fun _ h => absurd h List.not_mem_nil⟩⟩⟩⟩) (by decide +kernel)) gw_X9_layFits_X9_numberAt
theorem gw_X9_layFits_X9_stateMany : GoodIn W_X9_layFits W_X9_stateMany := fun w h => ⟨List.mem_cons_of_mem _ (List.mem_append_right _ (List.mem_append_right _ (List.mem_append_left _ (h)))), (wI_X9_stateMany w h).2⟩
theorem gc_X9_layFits_96_X9_stateMany : GoodIn W_X9_layFits (wsV RX9 96 RX9 yX9_stateMany W_X9_stateMany) := goodIn_app (goodIn_sub (List.forall_mem_cons.mpr ⟨List.mem_cons_of_mem _ (List.mem_append_left _ (List.mem_of_getElem? (i := 2) rfl)), List.forall_mem_cons.mpr ⟨List.mem_cons_of_mem _ (List.mem_append_left _ (List.mem_of_getElem? (i := 3) rfl)), List.forall_mem_cons.mpr ⟨List.mem_cons_of_mem _ (List.mem_append_left _ (List.mem_of_getElem? (i := 4) rfl)), List.forall_mem_cons.mpr ⟨List.mem_cons_of_mem _ (List.mem_append_left _ (List.mem_of_getElem? (i := 5) rfl)), fun _ h => absurd h List.not_mem_nil⟩⟩⟩⟩) (by decide +kernel)) gw_X9_layFits_X9_stateMany
theorem gw_X9_least_X9_in : GoodIn W_X9_least W_X9_in := fun w h => ⟨List.mem_cons_of_mem _ (List.mem_append_right _ (List.mem_append_right _ (List.mem_append_right _ (List.mem_append_left _ (h))))), (wI_X9_in w h).2⟩
theorem gc_X9_least_76_X9_in : GoodIn W_X9_least (va_wsS RX9 76 yX9_in W_X9_in) := goodIn_app (goodIn_sub (List.forall_mem_cons.mpr ⟨List.mem_cons_of_mem _ (List.mem_append_left _ (List.mem_of_getElem? (i := 5) rfl)), List.forall_mem_cons.mpr ⟨List.mem_cons_of_mem _ (List.mem_append_left _ (List.mem_of_getElem? (i := 6) rfl)), List.forall_mem_cons.mpr ⟨List.mem_cons_of_mem _ (List.mem_append_left _ (List.mem_of_getElem? (i := 3) rfl)), fun _ h => absurd h List.not_mem_nil⟩⟩⟩) (by decide +kernel)) gw_X9_least_X9_in
theorem gw_X9_least_X9_mergeOf : GoodIn W_X9_least W_X9_mergeOf := fun w h => ⟨List.mem_cons_of_mem _ (List.mem_append_right _ (List.mem_append_right _ (List.mem_append_right _ (List.mem_append_right _ (h))))), (wI_X9_mergeOf w h).2⟩
theorem gc_X9_least_344_X9_mergeOf : GoodIn W_X9_least (wsV RX9 344 RX9 yX9_mergeOf W_X9_mergeOf) := goodIn_app (goodIn_sub (List.forall_mem_cons.mpr ⟨List.mem_cons_of_mem _ (List.mem_append_left _ (List.mem_of_getElem? (i := 11) rfl)), List.forall_mem_cons.mpr ⟨List.mem_cons_of_mem _ (List.mem_append_left _ (List.mem_of_getElem? (i := 12) rfl)), List.forall_mem_cons.mpr ⟨List.mem_cons_of_mem _ (List.mem_append_left _ (List.mem_of_getElem? (i := 13) rfl)), List.forall_mem_cons.mpr ⟨List.mem_cons_of_mem _ (List.mem_append_left _ (List.mem_of_getElem? (i := 3) rfl)), fun _ h => absurd h List.not_mem_nil⟩⟩⟩⟩) (by decide +kernel)) gw_X9_least_X9_mergeOf
theorem gw_X9_least_X9_asksIn : GoodIn W_X9_least W_X9_asksIn := fun w h => ⟨List.mem_cons_of_mem _ (List.mem_append_right _ (List.mem_append_right _ (List.mem_append_left _ (h)))), (wI_X9_asksIn w h).2⟩
theorem gc_X9_least_399_X9_asksIn : GoodIn W_X9_least (wsV RX9 399 RX9 yX9_asksIn W_X9_asksIn) := goodIn_app (goodIn_sub (List.forall_mem_cons.mpr ⟨List.mem_cons_of_mem _ (List.mem_append_left _ (List.mem_of_getElem? (i := 0) rfl)), List.forall_mem_cons.mpr ⟨List.mem_cons_of_mem _ (List.mem_append_left _ (List.mem_of_getElem? (i := 1) rfl)), List.forall_mem_cons.mpr ⟨List.mem_cons_of_mem _ (List.mem_append_left _ (List.mem_of_getElem? (i := 2) rfl)), List.forall_mem_cons.mpr ⟨List.mem_cons_of_mem _ (List.mem_append_left _ (List.mem_of_getElem? (i := 3) rfl)), fun _ h => absurd h List.not_mem_nil⟩⟩⟩⟩) (by decide +kernel)) gw_X9_least_X9_asksIn
theorem gw_X9_locks_X9_asksLocks : GoodIn W_X9_locks W_X9_asksLocks := fun w h => ⟨List.mem_cons_of_mem _ (List.mem_append_right _ (List.mem_append_right _ (h))), (wI_X9_asksLocks w h).2⟩
theorem gc_X9_locks_424_X9_asksLocks : GoodIn W_X9_locks (wsV RX9 424 RX9 yX9_asksLocks W_X9_asksLocks) := goodIn_app (goodIn_sub (List.forall_mem_cons.mpr ⟨List.mem_cons_of_mem _ (List.mem_append_left _ (List.mem_of_getElem? (i := 0) rfl)), List.forall_mem_cons.mpr ⟨List.mem_cons_of_mem _ (List.mem_append_left _ (List.mem_of_getElem? (i := 1) rfl)), List.forall_mem_cons.mpr ⟨List.mem_cons_of_mem _ (List.mem_append_left _ (List.mem_of_getElem? (i := 2) rfl)), List.forall_mem_cons.mpr ⟨List.mem_cons_of_mem _ (List.mem_append_left _ (List.mem_of_getElem? (i := 3) rfl)), fun _ h => absurd h List.not_mem_nil⟩⟩⟩⟩) (by decide +kernel)) gw_X9_locks_X9_asksLocks
theorem gw_X9_needed_X9_asksLocks : GoodIn W_X9_needed W_X9_asksLocks := fun w h => ⟨List.mem_cons_of_mem _ (List.mem_append_right _ (List.mem_append_right _ (h))), (wI_X9_asksLocks w h).2⟩
theorem gc_X9_needed_424_X9_asksLocks : GoodIn W_X9_needed (wsV RX9 424 RX9 yX9_asksLocks W_X9_asksLocks) := goodIn_app (goodIn_sub (List.forall_mem_cons.mpr ⟨List.mem_cons_of_mem _ (List.mem_append_left _ (List.mem_of_getElem? (i := 0) rfl)), List.forall_mem_cons.mpr ⟨List.mem_cons_of_mem _ (List.mem_append_left _ (List.mem_of_getElem? (i := 1) rfl)), List.forall_mem_cons.mpr ⟨List.mem_cons_of_mem _ (List.mem_append_left _ (List.mem_of_getElem? (i := 2) rfl)), List.forall_mem_cons.mpr ⟨List.mem_cons_of_mem _ (List.mem_append_left _ (List.mem_of_getElem? (i := 3) rfl)), fun _ h => absurd h List.not_mem_nil⟩⟩⟩⟩) (by decide +kernel)) gw_X9_needed_X9_asksLocks
theorem gw_X9_pairs_X9_asksIn : GoodIn W_X9_pairs W_X9_asksIn := fun w h => ⟨List.mem_cons_of_mem _ (List.mem_append_right _ (List.mem_append_right _ (h))), (wI_X9_asksIn w h).2⟩
theorem gc_X9_pairs_399_X9_asksIn : GoodIn W_X9_pairs (wsV RX9 399 RX9 yX9_asksIn W_X9_asksIn) := goodIn_app (goodIn_sub (List.forall_mem_cons.mpr ⟨List.mem_cons_of_mem _ (List.mem_append_left _ (List.mem_of_getElem? (i := 0) rfl)), List.forall_mem_cons.mpr ⟨List.mem_cons_of_mem _ (List.mem_append_left _ (List.mem_of_getElem? (i := 1) rfl)), List.forall_mem_cons.mpr ⟨List.mem_cons_of_mem _ (List.mem_append_left _ (List.mem_of_getElem? (i := 2) rfl)), List.forall_mem_cons.mpr ⟨List.mem_cons_of_mem _ (List.mem_append_left _ (List.mem_of_getElem? (i := 3) rfl)), fun _ h => absurd h List.not_mem_nil⟩⟩⟩⟩) (by decide +kernel)) gw_X9_pairs_X9_asksIn
theorem gw_X9_safe_X9_asksIn : GoodIn W_X9_safe W_X9_asksIn := fun w h => ⟨List.mem_cons_of_mem _ (List.mem_append_right _ (List.mem_append_right _ (h))), (wI_X9_asksIn w h).2⟩
theorem gc_X9_safe_399_X9_asksIn : GoodIn W_X9_safe (wsV RX9 399 RX9 yX9_asksIn W_X9_asksIn) := goodIn_app (goodIn_sub (List.forall_mem_cons.mpr ⟨List.mem_cons_of_mem _ (List.mem_append_left _ (List.mem_of_getElem? (i := 0) rfl)), List.forall_mem_cons.mpr ⟨List.mem_cons_of_mem _ (List.mem_append_left _ (List.mem_of_getElem? (i := 1) rfl)), List.forall_mem_cons.mpr ⟨List.mem_cons_of_mem _ (List.mem_append_left _ (List.mem_of_getElem? (i := 2) rfl)), List.forall_mem_cons.mpr ⟨List.mem_cons_of_mem _ (List.mem_append_left _ (List.mem_of_getElem? (i := 3) rfl)), fun _ h => absurd h List.not_mem_nil⟩⟩⟩⟩) (by decide +kernel)) gw_X9_safe_X9_asksIn
theorem gw_X9_which_X9_askFits : GoodIn W_X9_which W_X9_askFits := fun w h => ⟨List.mem_cons_of_mem _ (List.mem_append_right _ (List.mem_append_right _ (h))), (wI_X9_askFits w h).2⟩
theorem gc_X9_which_449_X9_askFits : GoodIn W_X9_which (wsV RX9 449 RX9 yX9_askFits W_X9_askFits) := goodIn_app (goodIn_sub (List.forall_mem_cons.mpr ⟨List.mem_cons_of_mem _ (List.mem_append_left _ (List.mem_of_getElem? (i := 0) rfl)), List.forall_mem_cons.mpr ⟨List.mem_cons_of_mem _ (List.mem_append_left _ (List.mem_of_getElem? (i := 1) rfl)), List.forall_mem_cons.mpr ⟨List.mem_cons_of_mem _ (List.mem_append_left _ (List.mem_of_getElem? (i := 2) rfl)), List.forall_mem_cons.mpr ⟨List.mem_cons_of_mem _ (List.mem_append_left _ (List.mem_of_getElem? (i := 3) rfl)), fun _ h => absurd h List.not_mem_nil⟩⟩⟩⟩) (by decide +kernel)) gw_X9_which_X9_askFits
theorem gw_X9_worst_X9_asksIn : GoodIn W_X9_worst W_X9_asksIn := fun w h => ⟨List.mem_cons_of_mem _ (List.mem_append_right _ (List.mem_append_right _ (List.mem_append_left _ (h)))), (wI_X9_asksIn w h).2⟩
theorem gc_X9_worst_399_X9_asksIn : GoodIn W_X9_worst (wsV RX9 399 RX9 yX9_asksIn W_X9_asksIn) := goodIn_app (goodIn_sub (List.forall_mem_cons.mpr ⟨List.mem_cons_of_mem _ (List.mem_append_left _ (List.mem_of_getElem? (i := 0) rfl)), List.forall_mem_cons.mpr ⟨List.mem_cons_of_mem _ (List.mem_append_left _ (List.mem_of_getElem? (i := 1) rfl)), List.forall_mem_cons.mpr ⟨List.mem_cons_of_mem _ (List.mem_append_left _ (List.mem_of_getElem? (i := 2) rfl)), List.forall_mem_cons.mpr ⟨List.mem_cons_of_mem _ (List.mem_append_left _ (List.mem_of_getElem? (i := 3) rfl)), fun _ h => absurd h List.not_mem_nil⟩⟩⟩⟩) (by decide +kernel)) gw_X9_worst_X9_asksIn
theorem gw_X9_worst_X9_rules : GoodIn W_X9_worst W_X9_rules := fun w h => ⟨List.mem_cons_of_mem _ (List.mem_append_right _ (List.mem_append_right _ (List.mem_append_right _ (h)))), (wI_X9_rules w h).2⟩
theorem gc_X9_worst_80_X9_rules : GoodIn W_X9_worst (wsV RX9 80 RX9 yX9_rules W_X9_rules) := goodIn_app (goodIn_sub (List.forall_mem_cons.mpr ⟨List.mem_cons_of_mem _ (List.mem_append_left _ (List.mem_of_getElem? (i := 4) rfl)), List.forall_mem_cons.mpr ⟨List.mem_cons_of_mem _ (List.mem_append_left _ (List.mem_of_getElem? (i := 5) rfl)), List.forall_mem_cons.mpr ⟨List.mem_cons_of_mem _ (List.mem_append_left _ (List.mem_of_getElem? (i := 6) rfl)), List.forall_mem_cons.mpr ⟨List.mem_cons_of_mem _ (List.mem_append_left _ (List.mem_of_getElem? (i := 3) rfl)), fun _ h => absurd h List.not_mem_nil⟩⟩⟩⟩) (by decide +kernel)) gw_X9_worst_X9_rules
theorem gw_X9_worth_X9_in : GoodIn W_X9_worth W_X9_in := fun w h => ⟨List.mem_cons_of_mem _ (List.mem_append_right _ (List.mem_append_right _ (List.mem_append_right _ (List.mem_append_left _ (h))))), (wI_X9_in w h).2⟩
theorem gc_X9_worth_76_X9_in : GoodIn W_X9_worth (va_wsS RX9 76 yX9_in W_X9_in) := goodIn_app (goodIn_sub (List.forall_mem_cons.mpr ⟨List.mem_cons_of_mem _ (List.mem_append_left _ (List.mem_of_getElem? (i := 7) rfl)), List.forall_mem_cons.mpr ⟨List.mem_cons_of_mem _ (List.mem_append_left _ (List.mem_of_getElem? (i := 8) rfl)), List.forall_mem_cons.mpr ⟨List.mem_cons_of_mem _ (List.mem_append_left _ (List.mem_of_getElem? (i := 3) rfl)), fun _ h => absurd h List.not_mem_nil⟩⟩⟩) (by decide +kernel)) gw_X9_worth_X9_in
theorem gw_X9_worth_X9_allRules : GoodIn W_X9_worth W_X9_allRules := fun w h => ⟨List.mem_cons_of_mem _ (List.mem_append_right _ (List.mem_append_right _ (List.mem_append_left _ (h)))), (wI_X9_allRules w h).2⟩
theorem gc_X9_worth_402_X9_allRules : GoodIn W_X9_worth (wsV RX9 402 RX9 yX9_allRules W_X9_allRules) := goodIn_app (goodIn_sub (List.forall_mem_cons.mpr ⟨List.mem_cons_of_mem _ (List.mem_append_left _ (List.mem_of_getElem? (i := 4) rfl)), List.forall_mem_cons.mpr ⟨List.mem_cons_of_mem _ (List.mem_append_left _ (List.mem_of_getElem? (i := 5) rfl)), List.forall_mem_cons.mpr ⟨List.mem_cons_of_mem _ (List.mem_append_left _ (List.mem_of_getElem? (i := 6) rfl)), List.forall_mem_cons.mpr ⟨List.mem_cons_of_mem _ (List.mem_append_left _ (List.mem_of_getElem? (i := 3) rfl)), fun _ h => absurd h List.not_mem_nil⟩⟩⟩⟩) (by decide +kernel)) gw_X9_worth_X9_allRules
theorem gw_X9_worth_X9_worthOf : GoodIn W_X9_worth W_X9_worthOf := fun w h => ⟨List.mem_cons_of_mem _ (List.mem_append_right _ (List.mem_append_right _ (List.mem_append_right _ (List.mem_append_right _ (h))))), (wI_X9_worthOf w h).2⟩
theorem gc_X9_worth_455_X9_worthOf : GoodIn W_X9_worth (wsV RX9 455 RX9 yX9_worthOf W_X9_worthOf) := goodIn_app (goodIn_sub (List.forall_mem_cons.mpr ⟨List.mem_cons_of_mem _ (List.mem_append_left _ (List.mem_of_getElem? (i := 9) rfl)), List.forall_mem_cons.mpr ⟨List.mem_cons_of_mem _ (List.mem_append_left _ (List.mem_of_getElem? (i := 10) rfl)), List.forall_mem_cons.mpr ⟨List.mem_cons_of_mem _ (List.mem_append_left _ (List.mem_of_getElem? (i := 11) rfl)), List.forall_mem_cons.mpr ⟨List.mem_cons_of_mem _ (List.mem_append_left _ (List.mem_of_getElem? (i := 3) rfl)), fun _ h => absurd h List.not_mem_nil⟩⟩⟩⟩) (by decide +kernel)) gw_X9_worth_X9_worthOf
theorem gw_X9_worth_X9_isBase : GoodIn W_X9_worth W_X9_isBase := fun w h => ⟨List.mem_cons_of_mem _ (List.mem_append_right _ (List.mem_append_left _ (h))), (wI_X9_isBase w h).2⟩
theorem gc_X9_worth_92_X9_isBase : GoodIn W_X9_worth (wsV RX9 92 RX9 yX9_isBase W_X9_isBase) := goodIn_app (goodIn_sub (List.forall_mem_cons.mpr ⟨List.mem_cons_of_mem _ (List.mem_append_left _ (List.mem_of_getElem? (i := 0) rfl)), List.forall_mem_cons.mpr ⟨List.mem_cons_of_mem _ (List.mem_append_left _ (List.mem_of_getElem? (i := 1) rfl)), List.forall_mem_cons.mpr ⟨List.mem_cons_of_mem _ (List.mem_append_left _ (List.mem_of_getElem? (i := 2) rfl)), List.forall_mem_cons.mpr ⟨List.mem_cons_of_mem _ (List.mem_append_left _ (List.mem_of_getElem? (i := 3) rfl)), fun _ h => absurd h List.not_mem_nil⟩⟩⟩⟩) (by decide +kernel)) gw_X9_worth_X9_isBase
theorem gw_X9_worthOf_X9_asItIs : GoodIn W_X9_worthOf W_X9_asItIs := fun w h => ⟨List.mem_cons_of_mem _ (List.mem_append_right _ (List.mem_append_right _ (List.mem_append_left _ (h)))), (wI_X9_asItIs w h).2⟩
theorem gc_X9_worthOf_308_X9_asItIs : GoodIn W_X9_worthOf (wsV RX9 308 RX9 yX9_asItIs W_X9_asItIs) := goodIn_app (goodIn_sub (List.forall_mem_cons.mpr ⟨List.mem_cons_of_mem _ (List.mem_append_left _ (List.mem_of_getElem? (i := 0) rfl)), List.forall_mem_cons.mpr ⟨List.mem_cons_of_mem _ (List.mem_append_left _ (List.mem_of_getElem? (i := 1) rfl)), List.forall_mem_cons.mpr ⟨List.mem_cons_of_mem _ (List.mem_append_left _ (List.mem_of_getElem? (i := 2) rfl)), List.forall_mem_cons.mpr ⟨List.mem_cons_of_mem _ (List.mem_append_left _ (List.mem_of_getElem? (i := 3) rfl)), fun _ h => absurd h List.not_mem_nil⟩⟩⟩⟩) (by decide +kernel)) gw_X9_worthOf_X9_asItIs
theorem gw_X9_worthOf_X9_allRules : GoodIn W_X9_worthOf W_X9_allRules := fun w h => ⟨List.mem_cons_of_mem _ (List.mem_append_right _ (List.mem_append_right _ (List.mem_append_right _ (List.mem_append_left _ (h))))), (wI_X9_allRules w h).2⟩
theorem gc_X9_worthOf_402_X9_allRules : GoodIn W_X9_worthOf (wsV RX9 402 RX9 yX9_allRules W_X9_allRules) := goodIn_app (goodIn_sub (List.forall_mem_cons.mpr ⟨List.mem_cons_of_mem _ (List.mem_append_left _ (List.mem_of_getElem? (i := 5) rfl)), List.forall_mem_cons.mpr ⟨List.mem_cons_of_mem _ (List.mem_append_left _ (List.mem_of_getElem? (i := 6) rfl)), List.forall_mem_cons.mpr ⟨List.mem_cons_of_mem _ (List.mem_append_left _ (List.mem_of_getElem? (i := 7) rfl)), List.forall_mem_cons.mpr ⟨List.mem_cons_of_mem _ (List.mem_append_left _ (List.mem_of_getElem? (i := 3) rfl)), fun _ h => absurd h List.not_mem_nil⟩⟩⟩⟩) (by decide +kernel)) gw_X9_worthOf_X9_allRules
theorem gw_X9_worthOf_X9_breaksBy : GoodIn W_X9_worthOf W_X9_breaksBy := fun w h => ⟨List.mem_cons_of_mem _ (List.mem_append_right _ (List.mem_append_right _ (List.mem_append_right _ (List.mem_append_right _ (h))))), (wI_X9_breaksBy w h).2⟩
theorem gc_X9_worthOf_427_X9_breaksBy : GoodIn W_X9_worthOf (wsV RX9 427 RX9 yX9_breaksBy W_X9_breaksBy) := goodIn_app (goodIn_sub (List.forall_mem_cons.mpr ⟨List.mem_cons_of_mem _ (List.mem_append_left _ (List.mem_of_getElem? (i := 8) rfl)), List.forall_mem_cons.mpr ⟨List.mem_cons_of_mem _ (List.mem_append_left _ (List.mem_of_getElem? (i := 9) rfl)), List.forall_mem_cons.mpr ⟨List.mem_cons_of_mem _ (List.mem_append_left _ (List.mem_of_getElem? (i := 10) rfl)), List.forall_mem_cons.mpr ⟨List.mem_cons_of_mem _ (List.mem_append_left _ (List.mem_of_getElem? (i := 3) rfl)), fun _ h => absurd h List.not_mem_nil⟩⟩⟩⟩) (by decide +kernel)) gw_X9_worthOf_X9_breaksBy
