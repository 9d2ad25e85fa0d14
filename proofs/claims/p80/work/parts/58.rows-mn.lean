theorem dX9_anew_0 : decode cX9_anew 0 = .ok (.aload_n 0, 1) := by decide +kernel
theorem dX9_anew_1 : decode cX9_anew 1 = .ok (.invokevirtual 92, 3) := by decide +kernel
theorem dX9_anew_4 : decode cX9_anew 4 = .ok (.ifCond .ne 6, 3) := by decide +kernel
theorem dX9_anew_7 : decode cX9_anew 7 = .ok (.bipush (-2), 2) := by decide +kernel
theorem dX9_anew_9 : decode cX9_anew 9 = .ok (.ireturn, 1) := by decide +kernel
theorem dX9_anew_10 : decode cX9_anew 10 = .ok (.aload_n 0, 1) := by decide +kernel
theorem dX9_anew_11 : decode cX9_anew 11 = .ok (.getfield 9, 3) := by decide +kernel
theorem dX9_anew_14 : decode cX9_anew 14 = .ok (.bipush 6, 2) := by decide +kernel
theorem dX9_anew_16 : decode cX9_anew 16 = .ok (.iaload, 1) := by decide +kernel
theorem dX9_anew_17 : decode cX9_anew 17 = .ok (.istore_n 1, 1) := by decide +kernel
theorem dX9_anew_18 : decode cX9_anew 18 = .ok (.aload_n 0, 1) := by decide +kernel
theorem dX9_anew_19 : decode cX9_anew 19 = .ok (.getfield 9, 3) := by decide +kernel
theorem dX9_anew_22 : decode cX9_anew 22 = .ok (.bipush 6, 2) := by decide +kernel
theorem dX9_anew_24 : decode cX9_anew 24 = .ok (.iconst 0, 1) := by decide +kernel
theorem dX9_anew_25 : decode cX9_anew 25 = .ok (.iastore, 1) := by decide +kernel
theorem dX9_anew_26 : decode cX9_anew 26 = .ok (.iload_n 1, 1) := by decide +kernel
theorem dX9_anew_27 : decode cX9_anew 27 = .ok (.ireturn, 1) := by decide +kernel
theorem dX9_areTwo_0 : decode cX9_areTwo 0 = .ok (.aload_n 0, 1) := by decide +kernel
theorem dX9_areTwo_1 : decode cX9_areTwo 1 = .ok (.iload_n 1, 1) := by decide +kernel
theorem dX9_areTwo_2 : decode cX9_areTwo 2 = .ok (.invokevirtual 267, 3) := by decide +kernel
theorem dX9_areTwo_5 : decode cX9_areTwo 5 = .ok (.ifCond .eq 20, 3) := by decide +kernel
theorem dX9_areTwo_8 : decode cX9_areTwo 8 = .ok (.aload_n 0, 1) := by decide +kernel
theorem dX9_areTwo_9 : decode cX9_areTwo 9 = .ok (.iload_n 2, 1) := by decide +kernel
theorem dX9_areTwo_10 : decode cX9_areTwo 10 = .ok (.invokevirtual 267, 3) := by decide +kernel
theorem dX9_areTwo_13 : decode cX9_areTwo 13 = .ok (.ifCond .eq 12, 3) := by decide +kernel
theorem dX9_areTwo_16 : decode cX9_areTwo 16 = .ok (.iload_n 1, 1) := by decide +kernel
theorem dX9_areTwo_17 : decode cX9_areTwo 17 = .ok (.iload_n 2, 1) := by decide +kernel
theorem dX9_areTwo_18 : decode cX9_areTwo 18 = .ok (.if_icmp .eq 7, 3) := by decide +kernel
theorem dX9_areTwo_21 : decode cX9_areTwo 21 = .ok (.iconst 1, 1) := by decide +kernel
theorem dX9_areTwo_22 : decode cX9_areTwo 22 = .ok (.goto 4, 3) := by decide +kernel
theorem dX9_areTwo_25 : decode cX9_areTwo 25 = .ok (.iconst 0, 1) := by decide +kernel
theorem dX9_areTwo_26 : decode cX9_areTwo 26 = .ok (.ireturn, 1) := by decide +kernel
theorem dX9_asksChance_0 : decode cX9_asksChance 0 = .ok (.aload_n 0, 1) := by decide +kernel
theorem dX9_asksChance_1 : decode cX9_asksChance 1 = .ok (.invokevirtual 92, 3) := by decide +kernel
theorem dX9_asksChance_4 : decode cX9_asksChance 4 = .ok (.ifCond .eq 13, 3) := by decide +kernel
theorem dX9_asksChance_7 : decode cX9_asksChance 7 = .ok (.iload_n 1, 1) := by decide +kernel
theorem dX9_asksChance_8 : decode cX9_asksChance 8 = .ok (.i2l, 1) := by decide +kernel
theorem dX9_asksChance_9 : decode cX9_asksChance 9 = .ok (.lconst 0, 1) := by decide +kernel
theorem dX9_asksChance_10 : decode cX9_asksChance 10 = .ok (.lconst 1, 1) := by decide +kernel
theorem dX9_asksChance_11 : decode cX9_asksChance 11 = .ok (.invokestatic 76, 3) := by decide +kernel
theorem dX9_asksChance_14 : decode cX9_asksChance 14 = .ok (.ifCond .ne 5, 3) := by decide +kernel
theorem dX9_asksChance_17 : decode cX9_asksChance 17 = .ok (.iconst 0, 1) := by decide +kernel
theorem dX9_asksChance_18 : decode cX9_asksChance 18 = .ok (.ireturn, 1) := by decide +kernel
theorem dX9_asksChance_19 : decode cX9_asksChance 19 = .ok (.aload_n 0, 1) := by decide +kernel
theorem dX9_asksChance_20 : decode cX9_asksChance 20 = .ok (.invokevirtual 491, 3) := by decide +kernel
theorem dX9_asksChance_23 : decode cX9_asksChance 23 = .ok (.iconst 1, 1) := by decide +kernel
theorem dX9_asksChance_24 : decode cX9_asksChance 24 = .ok (.ireturn, 1) := by decide +kernel
theorem dX9_chance_0 : decode cX9_chance 0 = .ok (.aload_n 0, 1) := by decide +kernel
theorem dX9_chance_1 : decode cX9_chance 1 = .ok (.iload_n 1, 1) := by decide +kernel
theorem dX9_chance_2 : decode cX9_chance 2 = .ok (.invokevirtual 494, 3) := by decide +kernel
theorem dX9_chance_5 : decode cX9_chance 5 = .ok (.ifCond .eq 18, 3) := by decide +kernel
theorem dX9_chance_8 : decode cX9_chance 8 = .ok (.aload_n 0, 1) := by decide +kernel
theorem dX9_chance_9 : decode cX9_chance 9 = .ok (.getfield 485, 3) := by decide +kernel
theorem dX9_chance_12 : decode cX9_chance 12 = .ok (.aload_n 0, 1) := by decide +kernel
theorem dX9_chance_13 : decode cX9_chance 13 = .ok (.getfield 481, 3) := by decide +kernel
theorem dX9_chance_16 : decode cX9_chance 16 = .ok (.iload_n 1, 1) := by decide +kernel
theorem dX9_chance_17 : decode cX9_chance 17 = .ok (.invokestatic 470, 3) := by decide +kernel
theorem dX9_chance_20 : decode cX9_chance 20 = .ok (.goto 6, 3) := by decide +kernel
theorem dX9_chance_23 : decode cX9_chance 23 = .ok (.ldc2_w 497, 3) := by decide +kernel
theorem dX9_chance_26 : decode cX9_chance 26 = .ok (.lreturn, 1) := by decide +kernel
theorem dX9_count_0 : decode cX9_count 0 = .ok (.iload_n 1, 1) := by decide +kernel
theorem dX9_count_1 : decode cX9_count 1 = .ok (.i2l, 1) := by decide +kernel
theorem dX9_count_2 : decode cX9_count 2 = .ok (.lconst 0, 1) := by decide +kernel
theorem dX9_count_3 : decode cX9_count 3 = .ok (.ldc2_w 523, 3) := by decide +kernel
theorem dX9_count_6 : decode cX9_count 6 = .ok (.invokestatic 76, 3) := by decide +kernel
theorem dX9_count_9 : decode cX9_count 9 = .ok (.ifCond .eq 10, 3) := by decide +kernel
theorem dX9_count_12 : decode cX9_count 12 = .ok (.aload_n 0, 1) := by decide +kernel
theorem dX9_count_13 : decode cX9_count 13 = .ok (.getfield 9, 3) := by decide +kernel
theorem dX9_count_16 : decode cX9_count 16 = .ok (.iload_n 1, 1) := by decide +kernel
theorem dX9_count_17 : decode cX9_count 17 = .ok (.iaload, 1) := by decide +kernel
theorem dX9_count_18 : decode cX9_count 18 = .ok (.ireturn, 1) := by decide +kernel
theorem dX9_count_19 : decode cX9_count 19 = .ok (.iload_n 1, 1) := by decide +kernel
theorem dX9_count_20 : decode cX9_count 20 = .ok (.bipush 8, 2) := by decide +kernel
theorem dX9_count_22 : decode cX9_count 22 = .ok (.if_icmp .ne 8, 3) := by decide +kernel
theorem dX9_count_25 : decode cX9_count 25 = .ok (.aload_n 0, 1) := by decide +kernel
theorem dX9_count_26 : decode cX9_count 26 = .ok (.getfield 99, 3) := by decide +kernel
theorem dX9_count_29 : decode cX9_count 29 = .ok (.ireturn, 1) := by decide +kernel
theorem dX9_count_30 : decode cX9_count 30 = .ok (.iload_n 1, 1) := by decide +kernel
theorem dX9_count_31 : decode cX9_count 31 = .ok (.bipush 9, 2) := by decide +kernel
theorem dX9_count_33 : decode cX9_count 33 = .ok (.if_icmp .eq 5, 3) := by decide +kernel
theorem dX9_count_36 : decode cX9_count 36 = .ok (.iconst (-1), 1) := by decide +kernel
theorem dX9_count_37 : decode cX9_count 37 = .ok (.ireturn, 1) := by decide +kernel
theorem dX9_count_38 : decode cX9_count 38 = .ok (.iconst 0, 1) := by decide +kernel
theorem dX9_count_39 : decode cX9_count 39 = .ok (.istore_n 2, 1) := by decide +kernel
theorem dX9_count_40 : decode cX9_count 40 = .ok (.iconst 0, 1) := by decide +kernel
theorem dX9_count_41 : decode cX9_count 41 = .ok (.istore_n 3, 1) := by decide +kernel
theorem dX9_count_42 : decode cX9_count 42 = .ok (.iload_n 3, 1) := by decide +kernel
theorem dX9_count_43 : decode cX9_count 43 = .ok (.iconst 4, 1) := by decide +kernel
theorem dX9_count_44 : decode cX9_count 44 = .ok (.if_icmp .ge 27, 3) := by decide +kernel
theorem dX9_count_47 : decode cX9_count 47 = .ok (.iload_n 2, 1) := by decide +kernel
theorem dX9_count_48 : decode cX9_count 48 = .ok (.aload_n 0, 1) := by decide +kernel
theorem dX9_count_49 : decode cX9_count 49 = .ok (.getfield 58, 3) := by decide +kernel
theorem dX9_count_52 : decode cX9_count 52 = .ok (.iload_n 3, 1) := by decide +kernel
theorem dX9_count_53 : decode cX9_count 53 = .ok (.iaload, 1) := by decide +kernel
theorem dX9_count_54 : decode cX9_count 54 = .ok (.iconst (-1), 1) := by decide +kernel
theorem dX9_count_55 : decode cX9_count 55 = .ok (.if_icmp .ne 7, 3) := by decide +kernel
theorem dX9_count_58 : decode cX9_count 58 = .ok (.iconst 0, 1) := by decide +kernel
theorem dX9_count_59 : decode cX9_count 59 = .ok (.goto 4, 3) := by decide +kernel
theorem dX9_count_62 : decode cX9_count 62 = .ok (.iconst 1, 1) := by decide +kernel
theorem dX9_count_63 : decode cX9_count 63 = .ok (.iadd, 1) := by decide +kernel
theorem dX9_count_64 : decode cX9_count 64 = .ok (.istore_n 2, 1) := by decide +kernel
theorem dX9_count_65 : decode cX9_count 65 = .ok (.iinc 3 1, 3) := by decide +kernel
theorem dX9_count_68 : decode cX9_count 68 = .ok (.goto (-26), 3) := by decide +kernel
theorem dX9_count_71 : decode cX9_count 71 = .ok (.iload_n 2, 1) := by decide +kernel
theorem dX9_count_72 : decode cX9_count 72 = .ok (.ireturn, 1) := by decide +kernel
theorem dX9_divisor_0 : decode cX9_divisor 0 = .ok (.lload_n 0, 1) := by decide +kernel
theorem dX9_divisor_1 : decode cX9_divisor 1 = .ok (.invokestatic 458, 3) := by decide +kernel
theorem dX9_divisor_4 : decode cX9_divisor 4 = .ok (.lstore 4, 2) := by decide +kernel
theorem dX9_divisor_6 : decode cX9_divisor 6 = .ok (.lload_n 2, 1) := by decide +kernel
theorem dX9_divisor_7 : decode cX9_divisor 7 = .ok (.lstore 6, 2) := by decide +kernel
theorem dX9_divisor_9 : decode cX9_divisor 9 = .ok (.lload 6, 2) := by decide +kernel
theorem dX9_divisor_11 : decode cX9_divisor 11 = .ok (.lconst 0, 1) := by decide +kernel
theorem dX9_divisor_12 : decode cX9_divisor 12 = .ok (.lcmp, 1) := by decide +kernel
theorem dX9_divisor_13 : decode cX9_divisor 13 = .ok (.ifCond .eq 21, 3) := by decide +kernel
theorem dX9_divisor_16 : decode cX9_divisor 16 = .ok (.lload 4, 2) := by decide +kernel
theorem dX9_divisor_18 : decode cX9_divisor 18 = .ok (.lload 6, 2) := by decide +kernel
theorem dX9_divisor_20 : decode cX9_divisor 20 = .ok (.lrem, 1) := by decide +kernel
theorem dX9_divisor_21 : decode cX9_divisor 21 = .ok (.lstore 8, 2) := by decide +kernel
theorem dX9_divisor_23 : decode cX9_divisor 23 = .ok (.lload 6, 2) := by decide +kernel
theorem dX9_divisor_25 : decode cX9_divisor 25 = .ok (.lstore 4, 2) := by decide +kernel
theorem dX9_divisor_27 : decode cX9_divisor 27 = .ok (.lload 8, 2) := by decide +kernel
theorem dX9_divisor_29 : decode cX9_divisor 29 = .ok (.lstore 6, 2) := by decide +kernel
theorem dX9_divisor_31 : decode cX9_divisor 31 = .ok (.goto (-22), 3) := by decide +kernel
theorem dX9_divisor_34 : decode cX9_divisor 34 = .ok (.lload 4, 2) := by decide +kernel
theorem dX9_divisor_36 : decode cX9_divisor 36 = .ok (.lreturn, 1) := by decide +kernel
theorem dX9_drawn_0 : decode cX9_drawn 0 = .ok (.aload_n 0, 1) := by decide +kernel
theorem dX9_drawn_1 : decode cX9_drawn 1 = .ok (.invokevirtual 92, 3) := by decide +kernel
theorem dX9_drawn_4 : decode cX9_drawn 4 = .ok (.ifCond .eq 20, 3) := by decide +kernel
theorem dX9_drawn_7 : decode cX9_drawn 7 = .ok (.iload_n 1, 1) := by decide +kernel
theorem dX9_drawn_8 : decode cX9_drawn 8 = .ok (.invokestatic 514, 3) := by decide +kernel
theorem dX9_drawn_11 : decode cX9_drawn 11 = .ok (.ifCond .eq 13, 3) := by decide +kernel
theorem dX9_drawn_14 : decode cX9_drawn 14 = .ok (.iload_n 2, 1) := by decide +kernel
theorem dX9_drawn_15 : decode cX9_drawn 15 = .ok (.i2l, 1) := by decide +kernel
theorem dX9_drawn_16 : decode cX9_drawn 16 = .ok (.lconst 0, 1) := by decide +kernel
theorem dX9_drawn_17 : decode cX9_drawn 17 = .ok (.lconst 1, 1) := by decide +kernel
theorem dX9_drawn_18 : decode cX9_drawn 18 = .ok (.invokestatic 76, 3) := by decide +kernel
theorem dX9_drawn_21 : decode cX9_drawn 21 = .ok (.ifCond .ne 6, 3) := by decide +kernel
theorem dX9_drawn_24 : decode cX9_drawn 24 = .ok (.bipush (-2), 2) := by decide +kernel
theorem dX9_drawn_26 : decode cX9_drawn 26 = .ok (.ireturn, 1) := by decide +kernel
theorem dX9_drawn_27 : decode cX9_drawn 27 = .ok (.aload_n 0, 1) := by decide +kernel
theorem dX9_drawn_28 : decode cX9_drawn 28 = .ok (.iload_n 1, 1) := by decide +kernel
theorem dX9_drawn_29 : decode cX9_drawn 29 = .ok (.i2l, 1) := by decide +kernel
theorem dX9_drawn_30 : decode cX9_drawn 30 = .ok (.invokevirtual 517, 3) := by decide +kernel
theorem dX9_drawn_33 : decode cX9_drawn 33 = .ok (.istore_n 3, 1) := by decide +kernel
theorem dX9_drawn_34 : decode cX9_drawn 34 = .ok (.iload_n 2, 1) := by decide +kernel
theorem dX9_drawn_35 : decode cX9_drawn 35 = .ok (.ifCond .ne 7, 3) := by decide +kernel
theorem dX9_drawn_38 : decode cX9_drawn 38 = .ok (.iload_n 3, 1) := by decide +kernel
theorem dX9_drawn_39 : decode cX9_drawn 39 = .ok (.goto 15, 3) := by decide +kernel
theorem dX9_drawn_42 : decode cX9_drawn 42 = .ok (.aload_n 0, 1) := by decide +kernel
theorem dX9_drawn_43 : decode cX9_drawn 43 = .ok (.aload_n 0, 1) := by decide +kernel
theorem dX9_drawn_44 : decode cX9_drawn 44 = .ok (.invokevirtual 402, 3) := by decide +kernel
theorem dX9_drawn_47 : decode cX9_drawn 47 = .ok (.iload_n 3, 1) := by decide +kernel
theorem dX9_drawn_48 : decode cX9_drawn 48 = .ok (.iconst (-1), 1) := by decide +kernel
theorem dX9_drawn_49 : decode cX9_drawn 49 = .ok (.ixor, 1) := by decide +kernel
theorem dX9_drawn_50 : decode cX9_drawn 50 = .ok (.iand, 1) := by decide +kernel
theorem dX9_drawn_51 : decode cX9_drawn 51 = .ok (.invokevirtual 455, 3) := by decide +kernel
theorem dX9_drawn_54 : decode cX9_drawn 54 = .ok (.ireturn, 1) := by decide +kernel
theorem dX9_drawnSet_0 : decode cX9_drawnSet 0 = .ok (.lload_n 1, 1) := by decide +kernel
theorem dX9_drawnSet_1 : decode cX9_drawnSet 1 = .ok (.lstore_n 3, 1) := by decide +kernel
theorem dX9_drawnSet_2 : decode cX9_drawnSet 2 = .ok (.iconst 0, 1) := by decide +kernel
theorem dX9_drawnSet_3 : decode cX9_drawnSet 3 = .ok (.istore 5, 2) := by decide +kernel
theorem dX9_drawnSet_5 : decode cX9_drawnSet 5 = .ok (.iconst 0, 1) := by decide +kernel
theorem dX9_drawnSet_6 : decode cX9_drawnSet 6 = .ok (.istore 6, 2) := by decide +kernel
theorem dX9_drawnSet_8 : decode cX9_drawnSet 8 = .ok (.iload 6, 2) := by decide +kernel
theorem dX9_drawnSet_10 : decode cX9_drawnSet 10 = .ok (.aload_n 0, 1) := by decide +kernel
theorem dX9_drawnSet_11 : decode cX9_drawnSet 11 = .ok (.invokevirtual 80, 3) := by decide +kernel
theorem dX9_drawnSet_14 : decode cX9_drawnSet 14 = .ok (.if_icmp .ge 56, 3) := by decide +kernel
theorem dX9_drawnSet_17 : decode cX9_drawnSet 17 = .ok (.ldc2_w 502, 3) := by decide +kernel
theorem dX9_drawnSet_20 : decode cX9_drawnSet 20 = .ok (.lload_n 3, 1) := by decide +kernel
theorem dX9_drawnSet_21 : decode cX9_drawnSet 21 = .ok (.lmul, 1) := by decide +kernel
theorem dX9_drawnSet_22 : decode cX9_drawnSet 22 = .ok (.ldc2_w 504, 3) := by decide +kernel
theorem dX9_drawnSet_25 : decode cX9_drawnSet 25 = .ok (.ladd, 1) := by decide +kernel
theorem dX9_drawnSet_26 : decode cX9_drawnSet 26 = .ok (.ldc2_w 506, 3) := by decide +kernel
theorem dX9_drawnSet_29 : decode cX9_drawnSet 29 = .ok (.lrem, 1) := by decide +kernel
theorem dX9_drawnSet_30 : decode cX9_drawnSet 30 = .ok (.lstore_n 3, 1) := by decide +kernel
theorem dX9_drawnSet_31 : decode cX9_drawnSet 31 = .ok (.iload 5, 2) := by decide +kernel
theorem dX9_drawnSet_33 : decode cX9_drawnSet 33 = .ok (.lload_n 3, 1) := by decide +kernel
theorem dX9_drawnSet_34 : decode cX9_drawnSet 34 = .ok (.ldc2_w 508, 3) := by decide +kernel
theorem dX9_drawnSet_37 : decode cX9_drawnSet 37 = .ok (.ldiv, 1) := by decide +kernel
theorem dX9_drawnSet_38 : decode cX9_drawnSet 38 = .ok (.ldc2_w 510, 3) := by decide +kernel
theorem dX9_drawnSet_41 : decode cX9_drawnSet 41 = .ok (.lrem, 1) := by decide +kernel
theorem dX9_drawnSet_42 : decode cX9_drawnSet 42 = .ok (.aload_n 0, 1) := by decide +kernel
theorem dX9_drawnSet_43 : decode cX9_drawnSet 43 = .ok (.getfield 9, 3) := by decide +kernel
theorem dX9_drawnSet_46 : decode cX9_drawnSet 46 = .ok (.iconst 2, 1) := by decide +kernel
theorem dX9_drawnSet_47 : decode cX9_drawnSet 47 = .ok (.iaload, 1) := by decide +kernel
theorem dX9_drawnSet_48 : decode cX9_drawnSet 48 = .ok (.i2l, 1) := by decide +kernel
theorem dX9_drawnSet_49 : decode cX9_drawnSet 49 = .ok (.lcmp, 1) := by decide +kernel
theorem dX9_drawnSet_50 : decode cX9_drawnSet 50 = .ok (.ifCond .ge 10, 3) := by decide +kernel
theorem dX9_drawnSet_53 : decode cX9_drawnSet 53 = .ok (.iconst 1, 1) := by decide +kernel
theorem dX9_drawnSet_54 : decode cX9_drawnSet 54 = .ok (.iload 6, 2) := by decide +kernel
theorem dX9_drawnSet_56 : decode cX9_drawnSet 56 = .ok (.ishl, 1) := by decide +kernel
theorem dX9_drawnSet_57 : decode cX9_drawnSet 57 = .ok (.goto 4, 3) := by decide +kernel
theorem dX9_drawnSet_60 : decode cX9_drawnSet 60 = .ok (.iconst 0, 1) := by decide +kernel
theorem dX9_drawnSet_61 : decode cX9_drawnSet 61 = .ok (.ior, 1) := by decide +kernel
theorem dX9_drawnSet_62 : decode cX9_drawnSet 62 = .ok (.istore 5, 2) := by decide +kernel
theorem dX9_drawnSet_64 : decode cX9_drawnSet 64 = .ok (.iinc 6 1, 3) := by decide +kernel
theorem dX9_drawnSet_67 : decode cX9_drawnSet 67 = .ok (.goto (-59), 3) := by decide +kernel
theorem dX9_drawnSet_70 : decode cX9_drawnSet 70 = .ok (.iload 5, 2) := by decide +kernel
theorem dX9_drawnSet_72 : decode cX9_drawnSet 72 = .ok (.ireturn, 1) := by decide +kernel
theorem dX9_drops_0 : decode cX9_drops 0 = .ok (.aload_n 0, 1) := by decide +kernel
theorem dX9_drops_1 : decode cX9_drops 1 = .ok (.iload_n 1, 1) := by decide +kernel
theorem dX9_drops_2 : decode cX9_drops 2 = .ok (.invokevirtual 256, 3) := by decide +kernel
theorem dX9_drops_5 : decode cX9_drops 5 = .ok (.ifCond .eq 15, 3) := by decide +kernel
theorem dX9_drops_8 : decode cX9_drops 8 = .ok (.aload_n 0, 1) := by decide +kernel
theorem dX9_drops_9 : decode cX9_drops 9 = .ok (.sipush 300, 3) := by decide +kernel
theorem dX9_drops_12 : decode cX9_drops 12 = .ok (.iload_n 1, 1) := by decide +kernel
theorem dX9_drops_13 : decode cX9_drops 13 = .ok (.iadd, 1) := by decide +kernel
theorem dX9_drops_14 : decode cX9_drops 14 = .ok (.invokevirtual 499, 3) := by decide +kernel
theorem dX9_drops_17 : decode cX9_drops 17 = .ok (.goto 5, 3) := by decide +kernel
theorem dX9_drops_20 : decode cX9_drops 20 = .ok (.bipush (-2), 2) := by decide +kernel
theorem dX9_drops_22 : decode cX9_drops 22 = .ok (.ireturn, 1) := by decide +kernel
theorem dX9_factorial_0 : decode cX9_factorial 0 = .ok (.iconst 1, 1) := by decide +kernel
theorem dX9_factorial_1 : decode cX9_factorial 1 = .ok (.istore_n 1, 1) := by decide +kernel
theorem dX9_factorial_2 : decode cX9_factorial 2 = .ok (.iconst 2, 1) := by decide +kernel
theorem dX9_factorial_3 : decode cX9_factorial 3 = .ok (.istore_n 2, 1) := by decide +kernel
theorem dX9_factorial_4 : decode cX9_factorial 4 = .ok (.iload_n 2, 1) := by decide +kernel
theorem dX9_factorial_5 : decode cX9_factorial 5 = .ok (.iload_n 0, 1) := by decide +kernel
theorem dX9_factorial_6 : decode cX9_factorial 6 = .ok (.if_icmp .gt 13, 3) := by decide +kernel
theorem dX9_factorial_9 : decode cX9_factorial 9 = .ok (.iload_n 1, 1) := by decide +kernel
theorem dX9_factorial_10 : decode cX9_factorial 10 = .ok (.iload_n 2, 1) := by decide +kernel
theorem dX9_factorial_11 : decode cX9_factorial 11 = .ok (.imul, 1) := by decide +kernel
theorem dX9_factorial_12 : decode cX9_factorial 12 = .ok (.istore_n 1, 1) := by decide +kernel
theorem dX9_factorial_13 : decode cX9_factorial 13 = .ok (.iinc 2 1, 3) := by decide +kernel
theorem dX9_factorial_16 : decode cX9_factorial 16 = .ok (.goto (-12), 3) := by decide +kernel
theorem dX9_factorial_19 : decode cX9_factorial 19 = .ok (.iload_n 1, 1) := by decide +kernel
theorem dX9_factorial_20 : decode cX9_factorial 20 = .ok (.ireturn, 1) := by decide +kernel
theorem dX9_frees_0 : decode cX9_frees 0 = .ok (.aload_n 0, 1) := by decide +kernel
theorem dX9_frees_1 : decode cX9_frees 1 = .ok (.iload_n 1, 1) := by decide +kernel
theorem dX9_frees_2 : decode cX9_frees 2 = .ok (.invokevirtual 267, 3) := by decide +kernel
theorem dX9_frees_5 : decode cX9_frees 5 = .ok (.ifCond .eq 15, 3) := by decide +kernel
theorem dX9_frees_8 : decode cX9_frees 8 = .ok (.aload_n 0, 1) := by decide +kernel
theorem dX9_frees_9 : decode cX9_frees 9 = .ok (.sipush 200, 3) := by decide +kernel
theorem dX9_frees_12 : decode cX9_frees 12 = .ok (.iload_n 1, 1) := by decide +kernel
theorem dX9_frees_13 : decode cX9_frees 13 = .ok (.iadd, 1) := by decide +kernel
theorem dX9_frees_14 : decode cX9_frees 14 = .ok (.invokevirtual 499, 3) := by decide +kernel
theorem dX9_frees_17 : decode cX9_frees 17 = .ok (.goto 5, 3) := by decide +kernel
theorem dX9_frees_20 : decode cX9_frees 20 = .ok (.bipush (-2), 2) := by decide +kernel
theorem dX9_frees_22 : decode cX9_frees 22 = .ok (.ireturn, 1) := by decide +kernel
theorem dX9_gets_0 : decode cX9_gets 0 = .ok (.aload_n 0, 1) := by decide +kernel
theorem dX9_gets_1 : decode cX9_gets 1 = .ok (.iload_n 1, 1) := by decide +kernel
theorem dX9_gets_2 : decode cX9_gets 2 = .ok (.iload_n 2, 1) := by decide +kernel
theorem dX9_gets_3 : decode cX9_gets 3 = .ok (.invokevirtual 474, 3) := by decide +kernel
theorem dX9_gets_6 : decode cX9_gets 6 = .ok (.ifCond .eq 37, 3) := by decide +kernel
theorem dX9_gets_9 : decode cX9_gets 9 = .ok (.iload_n 3, 1) := by decide +kernel
theorem dX9_gets_10 : decode cX9_gets 10 = .ok (.i2l, 1) := by decide +kernel
theorem dX9_gets_11 : decode cX9_gets 11 = .ok (.lconst 0, 1) := by decide +kernel
theorem dX9_gets_12 : decode cX9_gets 12 = .ok (.lconst 1, 1) := by decide +kernel
theorem dX9_gets_13 : decode cX9_gets 13 = .ok (.invokestatic 76, 3) := by decide +kernel
theorem dX9_gets_16 : decode cX9_gets 16 = .ok (.ifCond .eq 27, 3) := by decide +kernel
theorem dX9_gets_19 : decode cX9_gets 19 = .ok (.iload 4, 2) := by decide +kernel
theorem dX9_gets_21 : decode cX9_gets 21 = .ok (.i2l, 1) := by decide +kernel
theorem dX9_gets_22 : decode cX9_gets 22 = .ok (.lconst 0, 1) := by decide +kernel
theorem dX9_gets_23 : decode cX9_gets 23 = .ok (.lconst 1, 1) := by decide +kernel
theorem dX9_gets_24 : decode cX9_gets 24 = .ok (.invokestatic 76, 3) := by decide +kernel
theorem dX9_gets_27 : decode cX9_gets 27 = .ok (.ifCond .eq 16, 3) := by decide +kernel
theorem dX9_gets_30 : decode cX9_gets 30 = .ok (.aload_n 0, 1) := by decide +kernel
theorem dX9_gets_31 : decode cX9_gets 31 = .ok (.iload_n 1, 1) := by decide +kernel
theorem dX9_gets_32 : decode cX9_gets 32 = .ok (.iload_n 2, 1) := by decide +kernel
theorem dX9_gets_33 : decode cX9_gets 33 = .ok (.iload_n 3, 1) := by decide +kernel
theorem dX9_gets_34 : decode cX9_gets 34 = .ok (.iload 4, 2) := by decide +kernel
theorem dX9_gets_36 : decode cX9_gets 36 = .ok (.iconst 0, 1) := by decide +kernel
theorem dX9_gets_37 : decode cX9_gets 37 = .ok (.invokevirtual 477, 3) := by decide +kernel
theorem dX9_gets_40 : decode cX9_gets 40 = .ok (.goto 6, 3) := by decide +kernel
theorem dX9_gets_43 : decode cX9_gets 43 = .ok (.ldc_w 466, 3) := by decide +kernel
theorem dX9_gets_46 : decode cX9_gets 46 = .ok (.ireturn, 1) := by decide +kernel
theorem dX9_getsBy_0 : decode cX9_getsBy 0 = .ok (.aload_n 0, 1) := by decide +kernel
theorem dX9_getsBy_1 : decode cX9_getsBy 1 = .ok (.invokevirtual 318, 3) := by decide +kernel
theorem dX9_getsBy_4 : decode cX9_getsBy 4 = .ok (.pop, 1) := by decide +kernel
theorem dX9_getsBy_5 : decode cX9_getsBy 5 = .ok (.aload_n 0, 1) := by decide +kernel
theorem dX9_getsBy_6 : decode cX9_getsBy 6 = .ok (.dup, 1) := by decide +kernel
theorem dX9_getsBy_7 : decode cX9_getsBy 7 = .ok (.getfield 279, 3) := by decide +kernel
theorem dX9_getsBy_10 : decode cX9_getsBy 10 = .ok (.iload_n 3, 1) := by decide +kernel
theorem dX9_getsBy_11 : decode cX9_getsBy 11 = .ok (.iload_n 1, 1) := by decide +kernel
theorem dX9_getsBy_12 : decode cX9_getsBy 12 = .ok (.ishl, 1) := by decide +kernel
theorem dX9_getsBy_13 : decode cX9_getsBy 13 = .ok (.iload 4, 2) := by decide +kernel
theorem dX9_getsBy_15 : decode cX9_getsBy 15 = .ok (.iload_n 2, 1) := by decide +kernel
theorem dX9_getsBy_16 : decode cX9_getsBy 16 = .ok (.ishl, 1) := by decide +kernel
theorem dX9_getsBy_17 : decode cX9_getsBy 17 = .ok (.ior, 1) := by decide +kernel
theorem dX9_getsBy_18 : decode cX9_getsBy 18 = .ok (.ior, 1) := by decide +kernel
theorem dX9_getsBy_19 : decode cX9_getsBy 19 = .ok (.putfield 279, 3) := by decide +kernel
theorem dX9_getsBy_22 : decode cX9_getsBy 22 = .ok (.aload_n 0, 1) := by decide +kernel
theorem dX9_getsBy_23 : decode cX9_getsBy 23 = .ok (.iload 5, 2) := by decide +kernel
theorem dX9_getsBy_25 : decode cX9_getsBy 25 = .ok (.ifCond .ne 7, 3) := by decide +kernel
theorem dX9_getsBy_28 : decode cX9_getsBy 28 = .ok (.iload_n 1, 1) := by decide +kernel
theorem dX9_getsBy_29 : decode cX9_getsBy 29 = .ok (.goto 4, 3) := by decide +kernel
theorem dX9_getsBy_32 : decode cX9_getsBy 32 = .ok (.iload_n 2, 1) := by decide +kernel
theorem dX9_getsBy_33 : decode cX9_getsBy 33 = .ok (.invokevirtual 328, 3) := by decide +kernel
theorem dX9_getsBy_36 : decode cX9_getsBy 36 = .ok (.aload_n 0, 1) := by decide +kernel
theorem dX9_getsBy_37 : decode cX9_getsBy 37 = .ok (.iconst 1, 1) := by decide +kernel
theorem dX9_getsBy_38 : decode cX9_getsBy 38 = .ok (.invokevirtual 393, 3) := by decide +kernel
theorem dX9_getsBy_41 : decode cX9_getsBy 41 = .ok (.isub, 1) := by decide +kernel
theorem dX9_getsBy_42 : decode cX9_getsBy 42 = .ok (.iconst 2, 1) := by decide +kernel
theorem dX9_getsBy_43 : decode cX9_getsBy 43 = .ok (.iload 5, 2) := by decide +kernel
theorem dX9_getsBy_45 : decode cX9_getsBy 45 = .ok (.ifCond .ne 7, 3) := by decide +kernel
theorem dX9_getsBy_48 : decode cX9_getsBy 48 = .ok (.iload_n 3, 1) := by decide +kernel
theorem dX9_getsBy_49 : decode cX9_getsBy 49 = .ok (.goto 5, 3) := by decide +kernel
theorem dX9_getsBy_52 : decode cX9_getsBy 52 = .ok (.iload 4, 2) := by decide +kernel
theorem dX9_getsBy_54 : decode cX9_getsBy 54 = .ok (.imul, 1) := by decide +kernel
theorem dX9_getsBy_55 : decode cX9_getsBy 55 = .ok (.isub, 1) := by decide +kernel
theorem dX9_getsBy_56 : decode cX9_getsBy 56 = .ok (.ireturn, 1) := by decide +kernel
theorem dX9_keepAct_0 : decode cX9_keepAct 0 = .ok (.aload_n 0, 1) := by decide +kernel
theorem dX9_keepAct_1 : decode cX9_keepAct 1 = .ok (.getfield 9, 3) := by decide +kernel
theorem dX9_keepAct_4 : decode cX9_keepAct 4 = .ok (.bipush 6, 2) := by decide +kernel
theorem dX9_keepAct_6 : decode cX9_keepAct 6 = .ok (.iaload, 1) := by decide +kernel
theorem dX9_keepAct_7 : decode cX9_keepAct 7 = .ok (.bipush 20, 2) := by decide +kernel
theorem dX9_keepAct_9 : decode cX9_keepAct 9 = .ok (.if_icmp .ne 6, 3) := by decide +kernel
theorem dX9_keepAct_12 : decode cX9_keepAct 12 = .ok (.bipush (-5), 2) := by decide +kernel
theorem dX9_keepAct_14 : decode cX9_keepAct 14 = .ok (.ireturn, 1) := by decide +kernel
theorem dX9_keepAct_15 : decode cX9_keepAct 15 = .ok (.aload_n 0, 1) := by decide +kernel
theorem dX9_keepAct_16 : decode cX9_keepAct 16 = .ok (.getfield 9, 3) := by decide +kernel
theorem dX9_keepAct_19 : decode cX9_keepAct 19 = .ok (.bipush 56, 2) := by decide +kernel
theorem dX9_keepAct_21 : decode cX9_keepAct 21 = .ok (.aload_n 0, 1) := by decide +kernel
theorem dX9_keepAct_22 : decode cX9_keepAct 22 = .ok (.getfield 9, 3) := by decide +kernel
theorem dX9_keepAct_25 : decode cX9_keepAct 25 = .ok (.bipush 6, 2) := by decide +kernel
theorem dX9_keepAct_27 : decode cX9_keepAct 27 = .ok (.iaload, 1) := by decide +kernel
theorem dX9_keepAct_28 : decode cX9_keepAct 28 = .ok (.iadd, 1) := by decide +kernel
theorem dX9_keepAct_29 : decode cX9_keepAct 29 = .ok (.iload_n 1, 1) := by decide +kernel
theorem dX9_keepAct_30 : decode cX9_keepAct 30 = .ok (.iastore, 1) := by decide +kernel
theorem dX9_keepAct_31 : decode cX9_keepAct 31 = .ok (.aload_n 0, 1) := by decide +kernel
theorem dX9_keepAct_32 : decode cX9_keepAct 32 = .ok (.getfield 9, 3) := by decide +kernel
theorem dX9_keepAct_35 : decode cX9_keepAct 35 = .ok (.bipush 6, 2) := by decide +kernel
theorem dX9_keepAct_37 : decode cX9_keepAct 37 = .ok (.dup2, 1) := by decide +kernel
theorem dX9_keepAct_38 : decode cX9_keepAct 38 = .ok (.iaload, 1) := by decide +kernel
theorem dX9_keepAct_39 : decode cX9_keepAct 39 = .ok (.iconst 1, 1) := by decide +kernel
theorem dX9_keepAct_40 : decode cX9_keepAct 40 = .ok (.iadd, 1) := by decide +kernel
theorem dX9_keepAct_41 : decode cX9_keepAct 41 = .ok (.iastore, 1) := by decide +kernel
theorem dX9_keepAct_42 : decode cX9_keepAct 42 = .ok (.aload_n 0, 1) := by decide +kernel
theorem dX9_keepAct_43 : decode cX9_keepAct 43 = .ok (.invokevirtual 318, 3) := by decide +kernel
theorem dX9_keepAct_46 : decode cX9_keepAct 46 = .ok (.pop, 1) := by decide +kernel
theorem dX9_keepAct_47 : decode cX9_keepAct 47 = .ok (.aload_n 0, 1) := by decide +kernel
theorem dX9_keepAct_48 : decode cX9_keepAct 48 = .ok (.iconst 1, 1) := by decide +kernel
theorem dX9_keepAct_49 : decode cX9_keepAct 49 = .ok (.invokevirtual 393, 3) := by decide +kernel
theorem dX9_keepAct_52 : decode cX9_keepAct 52 = .ok (.ireturn, 1) := by decide +kernel
theorem dX9_layChance_0 : decode cX9_layChance 0 = .ok (.aload_n 0, 1) := by decide +kernel
theorem dX9_layChance_1 : decode cX9_layChance 1 = .ok (.lconst 0, 1) := by decide +kernel
theorem dX9_layChance_2 : decode cX9_layChance 2 = .ok (.putfield 481, 3) := by decide +kernel
theorem dX9_layChance_5 : decode cX9_layChance 5 = .ok (.aload_n 0, 1) := by decide +kernel
theorem dX9_layChance_6 : decode cX9_layChance 6 = .ok (.lconst 0, 1) := by decide +kernel
theorem dX9_layChance_7 : decode cX9_layChance 7 = .ok (.putfield 485, 3) := by decide +kernel
theorem dX9_layChance_10 : decode cX9_layChance 10 = .ok (.aload_n 0, 1) := by decide +kernel
theorem dX9_layChance_11 : decode cX9_layChance 11 = .ok (.lconst 0, 1) := by decide +kernel
theorem dX9_layChance_12 : decode cX9_layChance 12 = .ok (.putfield 488, 3) := by decide +kernel
theorem dX9_layChance_15 : decode cX9_layChance 15 = .ok (.aload_n 0, 1) := by decide +kernel
theorem dX9_layChance_16 : decode cX9_layChance 16 = .ok (.invokevirtual 80, 3) := by decide +kernel
theorem dX9_layChance_19 : decode cX9_layChance 19 = .ok (.istore_n 1, 1) := by decide +kernel
theorem dX9_layChance_20 : decode cX9_layChance 20 = .ok (.iconst 0, 1) := by decide +kernel
theorem dX9_layChance_21 : decode cX9_layChance 21 = .ok (.istore_n 2, 1) := by decide +kernel
theorem dX9_layChance_22 : decode cX9_layChance 22 = .ok (.iload_n 2, 1) := by decide +kernel
theorem dX9_layChance_23 : decode cX9_layChance 23 = .ok (.iconst 1, 1) := by decide +kernel
theorem dX9_layChance_24 : decode cX9_layChance 24 = .ok (.iload_n 1, 1) := by decide +kernel
theorem dX9_layChance_25 : decode cX9_layChance 25 = .ok (.ishl, 1) := by decide +kernel
theorem dX9_layChance_26 : decode cX9_layChance 26 = .ok (.if_icmp .ge 127, 3) := by decide +kernel
theorem dX9_layChance_29 : decode cX9_layChance 29 = .ok (.lconst 1, 1) := by decide +kernel
theorem dX9_layChance_30 : decode cX9_layChance 30 = .ok (.lstore_n 3, 1) := by decide +kernel
theorem dX9_layChance_31 : decode cX9_layChance 31 = .ok (.iconst 0, 1) := by decide +kernel
theorem dX9_layChance_32 : decode cX9_layChance 32 = .ok (.istore 5, 2) := by decide +kernel
theorem dX9_layChance_34 : decode cX9_layChance 34 = .ok (.iload 5, 2) := by decide +kernel
theorem dX9_layChance_36 : decode cX9_layChance 36 = .ok (.iload_n 1, 1) := by decide +kernel
theorem dX9_layChance_37 : decode cX9_layChance 37 = .ok (.if_icmp .ge 42, 3) := by decide +kernel
theorem dX9_layChance_40 : decode cX9_layChance 40 = .ok (.lload_n 3, 1) := by decide +kernel
theorem dX9_layChance_41 : decode cX9_layChance 41 = .ok (.iload_n 2, 1) := by decide +kernel
theorem dX9_layChance_42 : decode cX9_layChance 42 = .ok (.iload 5, 2) := by decide +kernel
theorem dX9_layChance_44 : decode cX9_layChance 44 = .ok (.invokestatic 288, 3) := by decide +kernel
theorem dX9_layChance_47 : decode cX9_layChance 47 = .ok (.iconst 1, 1) := by decide +kernel
theorem dX9_layChance_48 : decode cX9_layChance 48 = .ok (.if_icmp .ne 13, 3) := by decide +kernel
theorem dX9_layChance_51 : decode cX9_layChance 51 = .ok (.aload_n 0, 1) := by decide +kernel
theorem dX9_layChance_52 : decode cX9_layChance 52 = .ok (.getfield 9, 3) := by decide +kernel
theorem dX9_layChance_55 : decode cX9_layChance 55 = .ok (.iconst 2, 1) := by decide +kernel
theorem dX9_layChance_56 : decode cX9_layChance 56 = .ok (.iaload, 1) := by decide +kernel
theorem dX9_layChance_57 : decode cX9_layChance 57 = .ok (.i2l, 1) := by decide +kernel
theorem dX9_layChance_58 : decode cX9_layChance 58 = .ok (.goto 13, 3) := by decide +kernel
theorem dX9_layChance_61 : decode cX9_layChance 61 = .ok (.bipush 10, 2) := by decide +kernel
theorem dX9_layChance_63 : decode cX9_layChance 63 = .ok (.aload_n 0, 1) := by decide +kernel
theorem dX9_layChance_64 : decode cX9_layChance 64 = .ok (.getfield 9, 3) := by decide +kernel
theorem dX9_layChance_67 : decode cX9_layChance 67 = .ok (.iconst 2, 1) := by decide +kernel
theorem dX9_layChance_68 : decode cX9_layChance 68 = .ok (.iaload, 1) := by decide +kernel
theorem dX9_layChance_69 : decode cX9_layChance 69 = .ok (.isub, 1) := by decide +kernel
theorem dX9_layChance_70 : decode cX9_layChance 70 = .ok (.i2l, 1) := by decide +kernel
theorem dX9_layChance_71 : decode cX9_layChance 71 = .ok (.lmul, 1) := by decide +kernel
theorem dX9_layChance_72 : decode cX9_layChance 72 = .ok (.lstore_n 3, 1) := by decide +kernel
theorem dX9_layChance_73 : decode cX9_layChance 73 = .ok (.iinc 5 1, 3) := by decide +kernel
theorem dX9_layChance_76 : decode cX9_layChance 76 = .ok (.goto (-42), 3) := by decide +kernel
theorem dX9_layChance_79 : decode cX9_layChance 79 = .ok (.lload_n 3, 1) := by decide +kernel
theorem dX9_layChance_80 : decode cX9_layChance 80 = .ok (.lconst 0, 1) := by decide +kernel
theorem dX9_layChance_81 : decode cX9_layChance 81 = .ok (.lcmp, 1) := by decide +kernel
theorem dX9_layChance_82 : decode cX9_layChance 82 = .ok (.ifCond .ne 6, 3) := by decide +kernel
theorem dX9_layChance_85 : decode cX9_layChance 85 = .ok (.goto 62, 3) := by decide +kernel
theorem dX9_layChance_88 : decode cX9_layChance 88 = .ok (.aload_n 0, 1) := by decide +kernel
theorem dX9_layChance_89 : decode cX9_layChance 89 = .ok (.aload_n 0, 1) := by decide +kernel
theorem dX9_layChance_90 : decode cX9_layChance 90 = .ok (.invokevirtual 402, 3) := by decide +kernel
theorem dX9_layChance_93 : decode cX9_layChance 93 = .ok (.iload_n 2, 1) := by decide +kernel
theorem dX9_layChance_94 : decode cX9_layChance 94 = .ok (.iconst (-1), 1) := by decide +kernel
theorem dX9_layChance_95 : decode cX9_layChance 95 = .ok (.ixor, 1) := by decide +kernel
theorem dX9_layChance_96 : decode cX9_layChance 96 = .ok (.iand, 1) := by decide +kernel
theorem dX9_layChance_97 : decode cX9_layChance 97 = .ok (.invokevirtual 455, 3) := by decide +kernel
theorem dX9_layChance_100 : decode cX9_layChance 100 = .ok (.istore 5, 2) := by decide +kernel
theorem dX9_layChance_102 : decode cX9_layChance 102 = .ok (.aload_n 0, 1) := by decide +kernel
theorem dX9_layChance_103 : decode cX9_layChance 103 = .ok (.dup, 1) := by decide +kernel
theorem dX9_layChance_104 : decode cX9_layChance 104 = .ok (.getfield 481, 3) := by decide +kernel
theorem dX9_layChance_107 : decode cX9_layChance 107 = .ok (.lload_n 3, 1) := by decide +kernel
theorem dX9_layChance_108 : decode cX9_layChance 108 = .ok (.ladd, 1) := by decide +kernel
theorem dX9_layChance_109 : decode cX9_layChance 109 = .ok (.putfield 481, 3) := by decide +kernel
theorem dX9_layChance_112 : decode cX9_layChance 112 = .ok (.aload_n 0, 1) := by decide +kernel
theorem dX9_layChance_113 : decode cX9_layChance 113 = .ok (.dup, 1) := by decide +kernel
theorem dX9_layChance_114 : decode cX9_layChance 114 = .ok (.getfield 485, 3) := by decide +kernel
theorem dX9_layChance_117 : decode cX9_layChance 117 = .ok (.iload 5, 2) := by decide +kernel
theorem dX9_layChance_119 : decode cX9_layChance 119 = .ok (.ifCond .ne 7, 3) := by decide +kernel
theorem dX9_layChance_122 : decode cX9_layChance 122 = .ok (.lload_n 3, 1) := by decide +kernel
theorem dX9_layChance_123 : decode cX9_layChance 123 = .ok (.goto 4, 3) := by decide +kernel
theorem dX9_layChance_126 : decode cX9_layChance 126 = .ok (.lconst 0, 1) := by decide +kernel
theorem dX9_layChance_127 : decode cX9_layChance 127 = .ok (.ladd, 1) := by decide +kernel
theorem dX9_layChance_128 : decode cX9_layChance 128 = .ok (.putfield 485, 3) := by decide +kernel
theorem dX9_layChance_131 : decode cX9_layChance 131 = .ok (.aload_n 0, 1) := by decide +kernel
theorem dX9_layChance_132 : decode cX9_layChance 132 = .ok (.dup, 1) := by decide +kernel
theorem dX9_layChance_133 : decode cX9_layChance 133 = .ok (.getfield 488, 3) := by decide +kernel
theorem dX9_layChance_136 : decode cX9_layChance 136 = .ok (.lload_n 3, 1) := by decide +kernel
theorem dX9_layChance_137 : decode cX9_layChance 137 = .ok (.aload_n 0, 1) := by decide +kernel
theorem dX9_layChance_138 : decode cX9_layChance 138 = .ok (.invokevirtual 321, 3) := by decide +kernel
theorem dX9_layChance_141 : decode cX9_layChance 141 = .ok (.i2l, 1) := by decide +kernel
theorem dX9_layChance_142 : decode cX9_layChance 142 = .ok (.lmul, 1) := by decide +kernel
theorem dX9_layChance_143 : decode cX9_layChance 143 = .ok (.ladd, 1) := by decide +kernel
theorem dX9_layChance_144 : decode cX9_layChance 144 = .ok (.putfield 488, 3) := by decide +kernel
theorem dX9_layChance_147 : decode cX9_layChance 147 = .ok (.iinc 2 1, 3) := by decide +kernel
theorem dX9_layChance_150 : decode cX9_layChance 150 = .ok (.goto (-128), 3) := by decide +kernel
theorem dX9_layChance_153 : decode cX9_layChance 153 = .ok (.return_, 1) := by decide +kernel
theorem dX9_lock_0 : decode cX9_lock 0 = .ok (.aload_n 0, 1) := by decide +kernel
theorem dX9_lock_1 : decode cX9_lock 1 = .ok (.iload_n 1, 1) := by decide +kernel
theorem dX9_lock_2 : decode cX9_lock 2 = .ok (.invokevirtual 267, 3) := by decide +kernel
theorem dX9_lock_5 : decode cX9_lock 5 = .ok (.ifCond .eq 14, 3) := by decide +kernel
theorem dX9_lock_8 : decode cX9_lock 8 = .ok (.aload_n 0, 1) := by decide +kernel
theorem dX9_lock_9 : decode cX9_lock 9 = .ok (.bipush 100, 2) := by decide +kernel
theorem dX9_lock_11 : decode cX9_lock 11 = .ok (.iload_n 1, 1) := by decide +kernel
theorem dX9_lock_12 : decode cX9_lock 12 = .ok (.iadd, 1) := by decide +kernel
theorem dX9_lock_13 : decode cX9_lock 13 = .ok (.invokevirtual 499, 3) := by decide +kernel
theorem dX9_lock_16 : decode cX9_lock 16 = .ok (.goto 5, 3) := by decide +kernel
theorem dX9_lock_19 : decode cX9_lock 19 = .ok (.bipush (-2), 2) := by decide +kernel
theorem dX9_lock_21 : decode cX9_lock 21 = .ok (.ireturn, 1) := by decide +kernel
theorem dX9_luck_0 : decode cX9_luck 0 = .ok (.aload_n 0, 1) := by decide +kernel
theorem dX9_luck_1 : decode cX9_luck 1 = .ok (.invokevirtual 92, 3) := by decide +kernel
theorem dX9_luck_4 : decode cX9_luck 4 = .ok (.ifCond .eq 22, 3) := by decide +kernel
theorem dX9_luck_7 : decode cX9_luck 7 = .ok (.iload_n 1, 1) := by decide +kernel
theorem dX9_luck_8 : decode cX9_luck 8 = .ok (.invokestatic 514, 3) := by decide +kernel
theorem dX9_luck_11 : decode cX9_luck 11 = .ok (.ifCond .eq 15, 3) := by decide +kernel
theorem dX9_luck_14 : decode cX9_luck 14 = .ok (.iload_n 2, 1) := by decide +kernel
theorem dX9_luck_15 : decode cX9_luck 15 = .ok (.i2l, 1) := by decide +kernel
theorem dX9_luck_16 : decode cX9_luck 16 = .ok (.lconst 1, 1) := by decide +kernel
theorem dX9_luck_17 : decode cX9_luck 17 = .ok (.ldc2_w 521, 3) := by decide +kernel
theorem dX9_luck_20 : decode cX9_luck 20 = .ok (.invokestatic 76, 3) := by decide +kernel
theorem dX9_luck_23 : decode cX9_luck 23 = .ok (.ifCond .ne 6, 3) := by decide +kernel
theorem dX9_luck_26 : decode cX9_luck 26 = .ok (.bipush (-2), 2) := by decide +kernel
theorem dX9_luck_28 : decode cX9_luck 28 = .ok (.ireturn, 1) := by decide +kernel
theorem dX9_luck_29 : decode cX9_luck 29 = .ok (.iconst 0, 1) := by decide +kernel
theorem dX9_luck_30 : decode cX9_luck 30 = .ok (.istore_n 3, 1) := by decide +kernel
theorem dX9_luck_31 : decode cX9_luck 31 = .ok (.iconst 0, 1) := by decide +kernel
theorem dX9_luck_32 : decode cX9_luck 32 = .ok (.istore 4, 2) := by decide +kernel
theorem dX9_luck_34 : decode cX9_luck 34 = .ok (.iload 4, 2) := by decide +kernel
theorem dX9_luck_36 : decode cX9_luck 36 = .ok (.iload_n 2, 1) := by decide +kernel
theorem dX9_luck_37 : decode cX9_luck 37 = .ok (.if_icmp .ge 41, 3) := by decide +kernel
theorem dX9_luck_40 : decode cX9_luck 40 = .ok (.iload_n 3, 1) := by decide +kernel
theorem dX9_luck_41 : decode cX9_luck 41 = .ok (.aload_n 0, 1) := by decide +kernel
theorem dX9_luck_42 : decode cX9_luck 42 = .ok (.aload_n 0, 1) := by decide +kernel
theorem dX9_luck_43 : decode cX9_luck 43 = .ok (.invokevirtual 402, 3) := by decide +kernel
theorem dX9_luck_46 : decode cX9_luck 46 = .ok (.aload_n 0, 1) := by decide +kernel
theorem dX9_luck_47 : decode cX9_luck 47 = .ok (.iload_n 1, 1) := by decide +kernel
theorem dX9_luck_48 : decode cX9_luck 48 = .ok (.i2l, 1) := by decide +kernel
theorem dX9_luck_49 : decode cX9_luck 49 = .ok (.iload 4, 2) := by decide +kernel
theorem dX9_luck_51 : decode cX9_luck 51 = .ok (.i2l, 1) := by decide +kernel
theorem dX9_luck_52 : decode cX9_luck 52 = .ok (.ladd, 1) := by decide +kernel
theorem dX9_luck_53 : decode cX9_luck 53 = .ok (.invokevirtual 517, 3) := by decide +kernel
theorem dX9_luck_56 : decode cX9_luck 56 = .ok (.iconst (-1), 1) := by decide +kernel
theorem dX9_luck_57 : decode cX9_luck 57 = .ok (.ixor, 1) := by decide +kernel
theorem dX9_luck_58 : decode cX9_luck 58 = .ok (.iand, 1) := by decide +kernel
theorem dX9_luck_59 : decode cX9_luck 59 = .ok (.invokevirtual 455, 3) := by decide +kernel
theorem dX9_luck_62 : decode cX9_luck 62 = .ok (.ifCond .ne 7, 3) := by decide +kernel
theorem dX9_luck_65 : decode cX9_luck 65 = .ok (.iconst 1, 1) := by decide +kernel
theorem dX9_luck_66 : decode cX9_luck 66 = .ok (.goto 4, 3) := by decide +kernel
theorem dX9_luck_69 : decode cX9_luck 69 = .ok (.iconst 0, 1) := by decide +kernel
theorem dX9_luck_70 : decode cX9_luck 70 = .ok (.iadd, 1) := by decide +kernel
theorem dX9_luck_71 : decode cX9_luck 71 = .ok (.istore_n 3, 1) := by decide +kernel
theorem dX9_luck_72 : decode cX9_luck 72 = .ok (.iinc 4 1, 3) := by decide +kernel
theorem dX9_luck_75 : decode cX9_luck 75 = .ok (.goto (-41), 3) := by decide +kernel
theorem dX9_luck_78 : decode cX9_luck 78 = .ok (.iload_n 3, 1) := by decide +kernel
theorem dX9_luck_79 : decode cX9_luck 79 = .ok (.ireturn, 1) := by decide +kernel
theorem dX9_mean_0 : decode cX9_mean 0 = .ok (.aload_n 0, 1) := by decide +kernel
theorem dX9_mean_1 : decode cX9_mean 1 = .ok (.iload_n 1, 1) := by decide +kernel
theorem dX9_mean_2 : decode cX9_mean 2 = .ok (.invokevirtual 494, 3) := by decide +kernel
theorem dX9_mean_5 : decode cX9_mean 5 = .ok (.ifCond .eq 18, 3) := by decide +kernel
theorem dX9_mean_8 : decode cX9_mean 8 = .ok (.aload_n 0, 1) := by decide +kernel
theorem dX9_mean_9 : decode cX9_mean 9 = .ok (.getfield 488, 3) := by decide +kernel
theorem dX9_mean_12 : decode cX9_mean 12 = .ok (.aload_n 0, 1) := by decide +kernel
theorem dX9_mean_13 : decode cX9_mean 13 = .ok (.getfield 481, 3) := by decide +kernel
theorem dX9_mean_16 : decode cX9_mean 16 = .ok (.iload_n 1, 1) := by decide +kernel
theorem dX9_mean_17 : decode cX9_mean 17 = .ok (.invokestatic 470, 3) := by decide +kernel
theorem dX9_mean_20 : decode cX9_mean 20 = .ok (.goto 6, 3) := by decide +kernel
theorem dX9_mean_23 : decode cX9_mean 23 = .ok (.ldc2_w 497, 3) := by decide +kernel
theorem dX9_mean_26 : decode cX9_mean 26 = .ok (.lreturn, 1) := by decide +kernel
theorem dX9_part_0 : decode cX9_part 0 = .ok (.iload 4, 2) := by decide +kernel
theorem dX9_part_2 : decode cX9_part 2 = .ok (.ifCond .ne 7, 3) := by decide +kernel
theorem dX9_part_5 : decode cX9_part 5 = .ok (.lload_n 0, 1) := by decide +kernel
theorem dX9_part_6 : decode cX9_part 6 = .ok (.goto 4, 3) := by decide +kernel
theorem dX9_part_9 : decode cX9_part 9 = .ok (.lload_n 2, 1) := by decide +kernel
theorem dX9_part_10 : decode cX9_part 10 = .ok (.lload_n 0, 1) := by decide +kernel
theorem dX9_part_11 : decode cX9_part 11 = .ok (.lload_n 2, 1) := by decide +kernel
theorem dX9_part_12 : decode cX9_part 12 = .ok (.invokestatic 462, 3) := by decide +kernel
theorem dX9_part_15 : decode cX9_part 15 = .ok (.ldiv, 1) := by decide +kernel
theorem dX9_part_16 : decode cX9_part 16 = .ok (.lreturn, 1) := by decide +kernel
theorem dX9_rate_0 : decode cX9_rate 0 = .ok (.aload_n 0, 1) := by decide +kernel
theorem dX9_rate_1 : decode cX9_rate 1 = .ok (.iload_n 1, 1) := by decide +kernel
theorem dX9_rate_2 : decode cX9_rate 2 = .ok (.invokevirtual 252, 3) := by decide +kernel
theorem dX9_rate_5 : decode cX9_rate 5 = .ok (.ifCond .eq 15, 3) := by decide +kernel
theorem dX9_rate_8 : decode cX9_rate 8 = .ok (.iload_n 2, 1) := by decide +kernel
theorem dX9_rate_9 : decode cX9_rate 9 = .ok (.i2l, 1) := by decide +kernel
theorem dX9_rate_10 : decode cX9_rate 10 = .ok (.lconst 0, 1) := by decide +kernel
theorem dX9_rate_11 : decode cX9_rate 11 = .ok (.ldc2_w 90, 3) := by decide +kernel
theorem dX9_rate_14 : decode cX9_rate 14 = .ok (.invokestatic 76, 3) := by decide +kernel
theorem dX9_rate_17 : decode cX9_rate 17 = .ok (.ifCond .ne 6, 3) := by decide +kernel
theorem dX9_rate_20 : decode cX9_rate 20 = .ok (.bipush (-2), 2) := by decide +kernel
theorem dX9_rate_22 : decode cX9_rate 22 = .ok (.ireturn, 1) := by decide +kernel
theorem dX9_rate_23 : decode cX9_rate 23 = .ok (.aload_n 0, 1) := by decide +kernel
theorem dX9_rate_24 : decode cX9_rate 24 = .ok (.getfield 9, 3) := by decide +kernel
theorem dX9_rate_27 : decode cX9_rate 27 = .ok (.bipush 6, 2) := by decide +kernel
theorem dX9_rate_29 : decode cX9_rate 29 = .ok (.iaload, 1) := by decide +kernel
theorem dX9_rate_30 : decode cX9_rate 30 = .ok (.ifCond .le 6, 3) := by decide +kernel
theorem dX9_rate_33 : decode cX9_rate 33 = .ok (.bipush (-5), 2) := by decide +kernel
theorem dX9_rate_35 : decode cX9_rate 35 = .ok (.ireturn, 1) := by decide +kernel
theorem dX9_rate_36 : decode cX9_rate 36 = .ok (.aload_n 0, 1) := by decide +kernel
theorem dX9_rate_37 : decode cX9_rate 37 = .ok (.getfield 9, 3) := by decide +kernel
theorem dX9_rate_40 : decode cX9_rate 40 = .ok (.bipush 8, 2) := by decide +kernel
theorem dX9_rate_42 : decode cX9_rate 42 = .ok (.iload_n 1, 1) := by decide +kernel
theorem dX9_rate_43 : decode cX9_rate 43 = .ok (.iadd, 1) := by decide +kernel
theorem dX9_rate_44 : decode cX9_rate 44 = .ok (.iaload, 1) := by decide +kernel
theorem dX9_rate_45 : decode cX9_rate 45 = .ok (.istore_n 3, 1) := by decide +kernel
theorem dX9_rate_46 : decode cX9_rate 46 = .ok (.aload_n 0, 1) := by decide +kernel
theorem dX9_rate_47 : decode cX9_rate 47 = .ok (.getfield 9, 3) := by decide +kernel
theorem dX9_rate_50 : decode cX9_rate 50 = .ok (.bipush 8, 2) := by decide +kernel
theorem dX9_rate_52 : decode cX9_rate 52 = .ok (.iload_n 1, 1) := by decide +kernel
theorem dX9_rate_53 : decode cX9_rate 53 = .ok (.iadd, 1) := by decide +kernel
theorem dX9_rate_54 : decode cX9_rate 54 = .ok (.iload_n 2, 1) := by decide +kernel
theorem dX9_rate_55 : decode cX9_rate 55 = .ok (.iastore, 1) := by decide +kernel
theorem dX9_rate_56 : decode cX9_rate 56 = .ok (.iload_n 3, 1) := by decide +kernel
theorem dX9_rate_57 : decode cX9_rate 57 = .ok (.ireturn, 1) := by decide +kernel
theorem dX9_rests_0 : decode cX9_rests 0 = .ok (.aload_n 0, 1) := by decide +kernel
theorem dX9_rests_1 : decode cX9_rests 1 = .ok (.iload_n 1, 1) := by decide +kernel
theorem dX9_rests_2 : decode cX9_rests 2 = .ok (.iload_n 2, 1) := by decide +kernel
theorem dX9_rests_3 : decode cX9_rests 3 = .ok (.invokevirtual 474, 3) := by decide +kernel
theorem dX9_rests_6 : decode cX9_rests 6 = .ok (.ifCond .ne 6, 3) := by decide +kernel
theorem dX9_rests_9 : decode cX9_rests 9 = .ok (.bipush (-2), 2) := by decide +kernel
theorem dX9_rests_11 : decode cX9_rests 11 = .ok (.ireturn, 1) := by decide +kernel
theorem dX9_rests_12 : decode cX9_rests 12 = .ok (.iconst 0, 1) := by decide +kernel
theorem dX9_rests_13 : decode cX9_rests 13 = .ok (.istore_n 3, 1) := by decide +kernel
theorem dX9_rests_14 : decode cX9_rests 14 = .ok (.iconst 0, 1) := by decide +kernel
theorem dX9_rests_15 : decode cX9_rests 15 = .ok (.istore 4, 2) := by decide +kernel
theorem dX9_rests_17 : decode cX9_rests 17 = .ok (.iload 4, 2) := by decide +kernel
theorem dX9_rests_19 : decode cX9_rests 19 = .ok (.iconst 4, 1) := by decide +kernel
theorem dX9_rests_20 : decode cX9_rests 20 = .ok (.if_icmp .ge 98, 3) := by decide +kernel
theorem dX9_rests_23 : decode cX9_rests 23 = .ok (.iload 4, 2) := by decide +kernel
theorem dX9_rests_25 : decode cX9_rests 25 = .ok (.iconst 1, 1) := by decide +kernel
theorem dX9_rests_26 : decode cX9_rests 26 = .ok (.iand, 1) := by decide +kernel
theorem dX9_rests_27 : decode cX9_rests 27 = .ok (.istore 5, 2) := by decide +kernel
theorem dX9_rests_29 : decode cX9_rests 29 = .ok (.iload 4, 2) := by decide +kernel
theorem dX9_rests_31 : decode cX9_rests 31 = .ok (.iconst 1, 1) := by decide +kernel
theorem dX9_rests_32 : decode cX9_rests 32 = .ok (.ishr, 1) := by decide +kernel
theorem dX9_rests_33 : decode cX9_rests 33 = .ok (.istore 6, 2) := by decide +kernel
theorem dX9_rests_35 : decode cX9_rests 35 = .ok (.aload_n 0, 1) := by decide +kernel
theorem dX9_rests_36 : decode cX9_rests 36 = .ok (.iload_n 1, 1) := by decide +kernel
theorem dX9_rests_37 : decode cX9_rests 37 = .ok (.iload_n 2, 1) := by decide +kernel
theorem dX9_rests_38 : decode cX9_rests 38 = .ok (.iload 5, 2) := by decide +kernel
theorem dX9_rests_40 : decode cX9_rests 40 = .ok (.iload 6, 2) := by decide +kernel
theorem dX9_rests_42 : decode cX9_rests 42 = .ok (.iconst 0, 1) := by decide +kernel
theorem dX9_rests_43 : decode cX9_rests 43 = .ok (.invokevirtual 477, 3) := by decide +kernel
theorem dX9_rests_46 : decode cX9_rests 46 = .ok (.aload_n 0, 1) := by decide +kernel
theorem dX9_rests_47 : decode cX9_rests 47 = .ok (.iload_n 1, 1) := by decide +kernel
theorem dX9_rests_48 : decode cX9_rests 48 = .ok (.iload_n 2, 1) := by decide +kernel
theorem dX9_rests_49 : decode cX9_rests 49 = .ok (.iconst 1, 1) := by decide +kernel
theorem dX9_rests_50 : decode cX9_rests 50 = .ok (.iload 5, 2) := by decide +kernel
theorem dX9_rests_52 : decode cX9_rests 52 = .ok (.isub, 1) := by decide +kernel
theorem dX9_rests_53 : decode cX9_rests 53 = .ok (.iload 6, 2) := by decide +kernel
theorem dX9_rests_55 : decode cX9_rests 55 = .ok (.iconst 0, 1) := by decide +kernel
theorem dX9_rests_56 : decode cX9_rests 56 = .ok (.invokevirtual 477, 3) := by decide +kernel
theorem dX9_rests_59 : decode cX9_rests 59 = .ok (.if_icmp .lt 34, 3) := by decide +kernel
theorem dX9_rests_62 : decode cX9_rests 62 = .ok (.aload_n 0, 1) := by decide +kernel
theorem dX9_rests_63 : decode cX9_rests 63 = .ok (.iload_n 1, 1) := by decide +kernel
theorem dX9_rests_64 : decode cX9_rests 64 = .ok (.iload_n 2, 1) := by decide +kernel
theorem dX9_rests_65 : decode cX9_rests 65 = .ok (.iload 5, 2) := by decide +kernel
theorem dX9_rests_67 : decode cX9_rests 67 = .ok (.iload 6, 2) := by decide +kernel
theorem dX9_rests_69 : decode cX9_rests 69 = .ok (.iconst 1, 1) := by decide +kernel
theorem dX9_rests_70 : decode cX9_rests 70 = .ok (.invokevirtual 477, 3) := by decide +kernel
theorem dX9_rests_73 : decode cX9_rests 73 = .ok (.aload_n 0, 1) := by decide +kernel
theorem dX9_rests_74 : decode cX9_rests 74 = .ok (.iload_n 1, 1) := by decide +kernel
theorem dX9_rests_75 : decode cX9_rests 75 = .ok (.iload_n 2, 1) := by decide +kernel
theorem dX9_rests_76 : decode cX9_rests 76 = .ok (.iload 5, 2) := by decide +kernel
theorem dX9_rests_78 : decode cX9_rests 78 = .ok (.iconst 1, 1) := by decide +kernel
theorem dX9_rests_79 : decode cX9_rests 79 = .ok (.iload 6, 2) := by decide +kernel
theorem dX9_rests_81 : decode cX9_rests 81 = .ok (.isub, 1) := by decide +kernel
theorem dX9_rests_82 : decode cX9_rests 82 = .ok (.iconst 1, 1) := by decide +kernel
theorem dX9_rests_83 : decode cX9_rests 83 = .ok (.invokevirtual 477, 3) := by decide +kernel
theorem dX9_rests_86 : decode cX9_rests 86 = .ok (.if_icmp .lt 7, 3) := by decide +kernel
theorem dX9_rests_89 : decode cX9_rests 89 = .ok (.iconst 1, 1) := by decide +kernel
theorem dX9_rests_90 : decode cX9_rests 90 = .ok (.goto 4, 3) := by decide +kernel
theorem dX9_rests_93 : decode cX9_rests 93 = .ok (.iconst 0, 1) := by decide +kernel
theorem dX9_rests_94 : decode cX9_rests 94 = .ok (.istore 7, 2) := by decide +kernel
theorem dX9_rests_96 : decode cX9_rests 96 = .ok (.iload_n 3, 1) := by decide +kernel
theorem dX9_rests_97 : decode cX9_rests 97 = .ok (.iload 7, 2) := by decide +kernel
theorem dX9_rests_99 : decode cX9_rests 99 = .ok (.ifCond .eq 10, 3) := by decide +kernel
theorem dX9_rests_102 : decode cX9_rests 102 = .ok (.iconst 1, 1) := by decide +kernel
theorem dX9_rests_103 : decode cX9_rests 103 = .ok (.iload 4, 2) := by decide +kernel
theorem dX9_rests_105 : decode cX9_rests 105 = .ok (.ishl, 1) := by decide +kernel
theorem dX9_rests_106 : decode cX9_rests 106 = .ok (.goto 4, 3) := by decide +kernel
theorem dX9_rests_109 : decode cX9_rests 109 = .ok (.iconst 0, 1) := by decide +kernel
theorem dX9_rests_110 : decode cX9_rests 110 = .ok (.ior, 1) := by decide +kernel
theorem dX9_rests_111 : decode cX9_rests 111 = .ok (.istore_n 3, 1) := by decide +kernel
theorem dX9_rests_112 : decode cX9_rests 112 = .ok (.iinc 4 1, 3) := by decide +kernel
theorem dX9_rests_115 : decode cX9_rests 115 = .ok (.goto (-98), 3) := by decide +kernel
theorem dX9_rests_118 : decode cX9_rests 118 = .ok (.iload_n 3, 1) := by decide +kernel
theorem dX9_rests_119 : decode cX9_rests 119 = .ok (.ireturn, 1) := by decide +kernel
theorem dX9_share_0 : decode cX9_share 0 = .ok (.aload_n 0, 1) := by decide +kernel
theorem dX9_share_1 : decode cX9_share 1 = .ok (.iload_n 1, 1) := by decide +kernel
theorem dX9_share_2 : decode cX9_share 2 = .ok (.invokevirtual 256, 3) := by decide +kernel
theorem dX9_share_5 : decode cX9_share 5 = .ok (.ifCond .eq 13, 3) := by decide +kernel
theorem dX9_share_8 : decode cX9_share 8 = .ok (.iload_n 2, 1) := by decide +kernel
theorem dX9_share_9 : decode cX9_share 9 = .ok (.i2l, 1) := by decide +kernel
theorem dX9_share_10 : decode cX9_share 10 = .ok (.lconst 0, 1) := by decide +kernel
theorem dX9_share_11 : decode cX9_share 11 = .ok (.lconst 1, 1) := by decide +kernel
theorem dX9_share_12 : decode cX9_share 12 = .ok (.invokestatic 76, 3) := by decide +kernel
theorem dX9_share_15 : decode cX9_share 15 = .ok (.ifCond .ne 7, 3) := by decide +kernel
theorem dX9_share_18 : decode cX9_share 18 = .ok (.ldc_w 466, 3) := by decide +kernel
theorem dX9_share_21 : decode cX9_share 21 = .ok (.ireturn, 1) := by decide +kernel
theorem dX9_share_22 : decode cX9_share 22 = .ok (.aload_n 0, 1) := by decide +kernel
theorem dX9_share_23 : decode cX9_share 23 = .ok (.invokevirtual 80, 3) := by decide +kernel
theorem dX9_share_26 : decode cX9_share 26 = .ok (.istore_n 3, 1) := by decide +kernel
theorem dX9_share_27 : decode cX9_share 27 = .ok (.iconst 0, 1) := by decide +kernel
theorem dX9_share_28 : decode cX9_share 28 = .ok (.istore 4, 2) := by decide +kernel
theorem dX9_share_30 : decode cX9_share 30 = .ok (.iload 4, 2) := by decide +kernel
theorem dX9_share_32 : decode cX9_share 32 = .ok (.iconst 1, 1) := by decide +kernel
theorem dX9_share_33 : decode cX9_share 33 = .ok (.iload_n 3, 1) := by decide +kernel
theorem dX9_share_34 : decode cX9_share 34 = .ok (.ishl, 1) := by decide +kernel
theorem dX9_share_35 : decode cX9_share 35 = .ok (.if_icmp .ge 22, 3) := by decide +kernel
theorem dX9_share_38 : decode cX9_share 38 = .ok (.aload_n 0, 1) := by decide +kernel
theorem dX9_share_39 : decode cX9_share 39 = .ok (.getfield 55, 3) := by decide +kernel
theorem dX9_share_42 : decode cX9_share 42 = .ok (.iload 4, 2) := by decide +kernel
theorem dX9_share_44 : decode cX9_share 44 = .ok (.aload_n 0, 1) := by decide +kernel
theorem dX9_share_45 : decode cX9_share 45 = .ok (.iload 4, 2) := by decide +kernel
theorem dX9_share_47 : decode cX9_share 47 = .ok (.invokevirtual 455, 3) := by decide +kernel
theorem dX9_share_50 : decode cX9_share 50 = .ok (.iastore, 1) := by decide +kernel
theorem dX9_share_51 : decode cX9_share 51 = .ok (.iinc 4 1, 3) := by decide +kernel
theorem dX9_share_54 : decode cX9_share 54 = .ok (.goto (-24), 3) := by decide +kernel
theorem dX9_share_57 : decode cX9_share 57 = .ok (.lconst 0, 1) := by decide +kernel
theorem dX9_share_58 : decode cX9_share 58 = .ok (.lstore 4, 2) := by decide +kernel
theorem dX9_share_60 : decode cX9_share 60 = .ok (.iconst 0, 1) := by decide +kernel
theorem dX9_share_61 : decode cX9_share 61 = .ok (.istore 6, 2) := by decide +kernel
theorem dX9_share_63 : decode cX9_share 63 = .ok (.iload 6, 2) := by decide +kernel
theorem dX9_share_65 : decode cX9_share 65 = .ok (.iconst 1, 1) := by decide +kernel
theorem dX9_share_66 : decode cX9_share 66 = .ok (.iload_n 3, 1) := by decide +kernel
theorem dX9_share_67 : decode cX9_share 67 = .ok (.ishl, 1) := by decide +kernel
theorem dX9_share_68 : decode cX9_share 68 = .ok (.if_icmp .ge 67, 3) := by decide +kernel
theorem dX9_share_71 : decode cX9_share 71 = .ok (.iload 6, 2) := by decide +kernel
theorem dX9_share_73 : decode cX9_share 73 = .ok (.iload_n 1, 1) := by decide +kernel
theorem dX9_share_74 : decode cX9_share 74 = .ok (.invokestatic 288, 3) := by decide +kernel
theorem dX9_share_77 : decode cX9_share 77 = .ok (.ifCond .ne 52, 3) := by decide +kernel
theorem dX9_share_80 : decode cX9_share 80 = .ok (.lload 4, 2) := by decide +kernel
theorem dX9_share_82 : decode cX9_share 82 = .ok (.iload 6, 2) := by decide +kernel
theorem dX9_share_84 : decode cX9_share 84 = .ok (.invokestatic 418, 3) := by decide +kernel
theorem dX9_share_87 : decode cX9_share 87 = .ok (.invokestatic 467, 3) := by decide +kernel
theorem dX9_share_90 : decode cX9_share 90 = .ok (.i2l, 1) := by decide +kernel
theorem dX9_share_91 : decode cX9_share 91 = .ok (.iload_n 3, 1) := by decide +kernel
theorem dX9_share_92 : decode cX9_share 92 = .ok (.iconst 1, 1) := by decide +kernel
theorem dX9_share_93 : decode cX9_share 93 = .ok (.isub, 1) := by decide +kernel
theorem dX9_share_94 : decode cX9_share 94 = .ok (.iload 6, 2) := by decide +kernel
theorem dX9_share_96 : decode cX9_share 96 = .ok (.invokestatic 418, 3) := by decide +kernel
theorem dX9_share_99 : decode cX9_share 99 = .ok (.isub, 1) := by decide +kernel
theorem dX9_share_100 : decode cX9_share 100 = .ok (.invokestatic 467, 3) := by decide +kernel
theorem dX9_share_103 : decode cX9_share 103 = .ok (.i2l, 1) := by decide +kernel
theorem dX9_share_104 : decode cX9_share 104 = .ok (.lmul, 1) := by decide +kernel
theorem dX9_share_105 : decode cX9_share 105 = .ok (.aload_n 0, 1) := by decide +kernel
theorem dX9_share_106 : decode cX9_share 106 = .ok (.getfield 55, 3) := by decide +kernel
theorem dX9_share_109 : decode cX9_share 109 = .ok (.iload 6, 2) := by decide +kernel
theorem dX9_share_111 : decode cX9_share 111 = .ok (.iconst 1, 1) := by decide +kernel
theorem dX9_share_112 : decode cX9_share 112 = .ok (.iload_n 1, 1) := by decide +kernel
theorem dX9_share_113 : decode cX9_share 113 = .ok (.ishl, 1) := by decide +kernel
theorem dX9_share_114 : decode cX9_share 114 = .ok (.ior, 1) := by decide +kernel
theorem dX9_share_115 : decode cX9_share 115 = .ok (.iaload, 1) := by decide +kernel
theorem dX9_share_116 : decode cX9_share 116 = .ok (.aload_n 0, 1) := by decide +kernel
theorem dX9_share_117 : decode cX9_share 117 = .ok (.getfield 55, 3) := by decide +kernel
theorem dX9_share_120 : decode cX9_share 120 = .ok (.iload 6, 2) := by decide +kernel
theorem dX9_share_122 : decode cX9_share 122 = .ok (.iaload, 1) := by decide +kernel
theorem dX9_share_123 : decode cX9_share 123 = .ok (.isub, 1) := by decide +kernel
theorem dX9_share_124 : decode cX9_share 124 = .ok (.i2l, 1) := by decide +kernel
theorem dX9_share_125 : decode cX9_share 125 = .ok (.lmul, 1) := by decide +kernel
theorem dX9_share_126 : decode cX9_share 126 = .ok (.ladd, 1) := by decide +kernel
theorem dX9_share_127 : decode cX9_share 127 = .ok (.lstore 4, 2) := by decide +kernel
theorem dX9_share_129 : decode cX9_share 129 = .ok (.iinc 6 1, 3) := by decide +kernel
theorem dX9_share_132 : decode cX9_share 132 = .ok (.goto (-69), 3) := by decide +kernel
theorem dX9_share_135 : decode cX9_share 135 = .ok (.lload 4, 2) := by decide +kernel
theorem dX9_share_137 : decode cX9_share 137 = .ok (.iload_n 3, 1) := by decide +kernel
theorem dX9_share_138 : decode cX9_share 138 = .ok (.invokestatic 467, 3) := by decide +kernel
theorem dX9_share_141 : decode cX9_share 141 = .ok (.i2l, 1) := by decide +kernel
theorem dX9_share_142 : decode cX9_share 142 = .ok (.iload_n 2, 1) := by decide +kernel
theorem dX9_share_143 : decode cX9_share 143 = .ok (.invokestatic 470, 3) := by decide +kernel
theorem dX9_share_146 : decode cX9_share 146 = .ok (.l2i, 1) := by decide +kernel
theorem dX9_share_147 : decode cX9_share 147 = .ok (.ireturn, 1) := by decide +kernel
theorem dX9_undo_0 : decode cX9_undo 0 = .ok (.aload_n 0, 1) := by decide +kernel
theorem dX9_undo_1 : decode cX9_undo 1 = .ok (.invokevirtual 92, 3) := by decide +kernel
theorem dX9_undo_4 : decode cX9_undo 4 = .ok (.ifCond .ne 6, 3) := by decide +kernel
theorem dX9_undo_7 : decode cX9_undo 7 = .ok (.bipush (-2), 2) := by decide +kernel
theorem dX9_undo_9 : decode cX9_undo 9 = .ok (.ireturn, 1) := by decide +kernel
theorem dX9_undo_10 : decode cX9_undo 10 = .ok (.aload_n 0, 1) := by decide +kernel
theorem dX9_undo_11 : decode cX9_undo 11 = .ok (.getfield 9, 3) := by decide +kernel
theorem dX9_undo_14 : decode cX9_undo 14 = .ok (.bipush 6, 2) := by decide +kernel
theorem dX9_undo_16 : decode cX9_undo 16 = .ok (.iaload, 1) := by decide +kernel
theorem dX9_undo_17 : decode cX9_undo 17 = .ok (.ifCond .ne 6, 3) := by decide +kernel
theorem dX9_undo_20 : decode cX9_undo 20 = .ok (.bipush (-5), 2) := by decide +kernel
theorem dX9_undo_22 : decode cX9_undo 22 = .ok (.ireturn, 1) := by decide +kernel
theorem dX9_undo_23 : decode cX9_undo 23 = .ok (.aload_n 0, 1) := by decide +kernel
theorem dX9_undo_24 : decode cX9_undo 24 = .ok (.getfield 9, 3) := by decide +kernel
theorem dX9_undo_27 : decode cX9_undo 27 = .ok (.bipush 6, 2) := by decide +kernel
theorem dX9_undo_29 : decode cX9_undo 29 = .ok (.dup2, 1) := by decide +kernel
theorem dX9_undo_30 : decode cX9_undo 30 = .ok (.iaload, 1) := by decide +kernel
theorem dX9_undo_31 : decode cX9_undo 31 = .ok (.iconst 1, 1) := by decide +kernel
theorem dX9_undo_32 : decode cX9_undo 32 = .ok (.isub, 1) := by decide +kernel
theorem dX9_undo_33 : decode cX9_undo 33 = .ok (.iastore, 1) := by decide +kernel
theorem dX9_undo_34 : decode cX9_undo 34 = .ok (.aload_n 0, 1) := by decide +kernel
theorem dX9_undo_35 : decode cX9_undo 35 = .ok (.getfield 9, 3) := by decide +kernel
theorem dX9_undo_38 : decode cX9_undo 38 = .ok (.bipush 6, 2) := by decide +kernel
theorem dX9_undo_40 : decode cX9_undo 40 = .ok (.iaload, 1) := by decide +kernel
theorem dX9_undo_41 : decode cX9_undo 41 = .ok (.ireturn, 1) := by decide +kernel
theorem iuX9_anew_X9 : ∀ w ∈ u_ws RX9 TX9 42, w ∈ W_X9_anew := fun w h => List.mem_cons_of_mem _ (List.mem_append_right _ (List.mem_append_left _ (h)))
theorem iuX9_chance_X9 : ∀ w ∈ u_ws RX9 TX9 42, w ∈ W_X9_chance := fun w h => List.mem_cons_of_mem _ (List.mem_append_right _ (List.mem_append_left _ (h)))
theorem iuX9_count_X9 : ∀ w ∈ u_ws RX9 TX9 42, w ∈ W_X9_count := fun w h => List.mem_cons_of_mem _ (List.mem_append_right _ (List.mem_append_left _ (h)))
theorem iuX9_drawnSet_X9 : ∀ w ∈ u_ws RX9 TX9 42, w ∈ W_X9_drawnSet := fun w h => List.mem_cons_of_mem _ (List.mem_append_right _ (List.mem_append_left _ (h)))
theorem iuX9_getsBy_X9 : ∀ w ∈ u_ws RX9 TX9 42, w ∈ W_X9_getsBy := fun w h => List.mem_cons_of_mem _ (List.mem_append_right _ (List.mem_append_left _ (h)))
theorem iuX9_keepAct_X9 : ∀ w ∈ u_ws RX9 TX9 42, w ∈ W_X9_keepAct := fun w h => List.mem_cons_of_mem _ (List.mem_append_right _ (List.mem_append_left _ (h)))
theorem iuX9_layChance_X9 : ∀ w ∈ u_ws RX9 TX9 42, w ∈ W_X9_layChance := fun w h => List.mem_cons_of_mem _ (List.mem_append_right _ (List.mem_append_left _ (h)))
theorem iuX9_mean_X9 : ∀ w ∈ u_ws RX9 TX9 42, w ∈ W_X9_mean := fun w h => List.mem_cons_of_mem _ (List.mem_append_right _ (List.mem_append_left _ (h)))
theorem iuX9_rate_X9 : ∀ w ∈ u_ws RX9 TX9 42, w ∈ W_X9_rate := fun w h => List.mem_cons_of_mem _ (List.mem_append_right _ (List.mem_append_left _ (h)))
theorem iuX9_share_X9 : ∀ w ∈ u_ws RX9 TX9 42, w ∈ W_X9_share := fun w h => List.mem_cons_of_mem _ (List.mem_append_right _ (List.mem_append_left _ (h)))
theorem iuX9_undo_X9 : ∀ w ∈ u_ws RX9 TX9 42, w ∈ W_X9_undo := fun w h => List.mem_cons_of_mem _ (List.mem_append_right _ (List.mem_append_left _ (h)))
theorem gw_X9_anew_X9_isBase : GoodIn W_X9_anew W_X9_isBase := fun w h => ⟨List.mem_cons_of_mem _ (List.mem_append_right _ (List.mem_append_right _ (h))), (wI_X9_isBase w h).2⟩
theorem gc_X9_anew_92_X9_isBase : GoodIn W_X9_anew (wsV RX9 92 RX9 yX9_isBase W_X9_isBase) := goodIn_app (goodIn_sub (List.forall_mem_cons.mpr ⟨List.mem_cons_of_mem _ (List.mem_append_left _ (List.mem_of_getElem? (i := 0) rfl)), List.forall_mem_cons.mpr ⟨List.mem_cons_of_mem _ (List.mem_append_left _ (List.mem_of_getElem? (i := 1) rfl)), List.forall_mem_cons.mpr ⟨List.mem_cons_of_mem _ (List.mem_append_left _ (List.mem_of_getElem? (i := 2) rfl)), List.forall_mem_cons.mpr ⟨List.mem_cons_of_mem _ (List.mem_append_left _ (List.mem_of_getElem? (i := 3) rfl)), fun _ h => absurd h List.not_mem_nil⟩⟩⟩⟩) (by decide +kernel)) gw_X9_anew_X9_isBase
theorem gw_X9_areTwo_X9_isOp : GoodIn W_X9_areTwo W_X9_isOp := fun w h => ⟨List.mem_cons_of_mem _ (List.mem_append_right _ (h)), (wI_X9_isOp w h).2⟩
theorem gc_X9_areTwo_267_X9_isOp : GoodIn W_X9_areTwo (wsV RX9 267 RX9 yX9_isOp W_X9_isOp) := goodIn_app (goodIn_sub (List.forall_mem_cons.mpr ⟨List.mem_cons_of_mem _ (List.mem_append_left _ (List.mem_of_getElem? (i := 0) rfl)), List.forall_mem_cons.mpr ⟨List.mem_cons_of_mem _ (List.mem_append_left _ (List.mem_of_getElem? (i := 1) rfl)), List.forall_mem_cons.mpr ⟨List.mem_cons_of_mem _ (List.mem_append_left _ (List.mem_of_getElem? (i := 2) rfl)), List.forall_mem_cons.mpr ⟨List.mem_cons_of_mem _ (List.mem_append_left _ (List.mem_of_getElem? (i := 3) rfl)), fun _ h => absurd h List.not_mem_nil⟩⟩⟩⟩) (by decide +kernel)) gw_X9_areTwo_X9_isOp
theorem gw_X9_asksChance_X9_in : GoodIn W_X9_asksChance W_X9_in := fun w h => ⟨List.mem_cons_of_mem _ (List.mem_append_right _ (List.mem_append_right _ (List.mem_append_left _ (h)))), (wI_X9_in w h).2⟩
theorem gc_X9_asksChance_76_X9_in : GoodIn W_X9_asksChance (va_wsS RX9 76 yX9_in W_X9_in) := goodIn_app (goodIn_sub (List.forall_mem_cons.mpr ⟨List.mem_cons_of_mem _ (List.mem_append_left _ (List.mem_of_getElem? (i := 4) rfl)), List.forall_mem_cons.mpr ⟨List.mem_cons_of_mem _ (List.mem_append_left _ (List.mem_of_getElem? (i := 5) rfl)), List.forall_mem_cons.mpr ⟨List.mem_cons_of_mem _ (List.mem_append_left _ (List.mem_of_getElem? (i := 3) rfl)), fun _ h => absurd h List.not_mem_nil⟩⟩⟩) (by decide +kernel)) gw_X9_asksChance_X9_in
theorem gw_X9_asksChance_X9_layChance : GoodIn W_X9_asksChance W_X9_layChance := fun w h => ⟨List.mem_cons_of_mem _ (List.mem_append_right _ (List.mem_append_right _ (List.mem_append_right _ (h)))), (wI_X9_layChance w h).2⟩
theorem gc_X9_asksChance_491_X9_layChance : GoodIn W_X9_asksChance (wsV RX9 491 RX9 yX9_layChance W_X9_layChance) := goodIn_app (goodIn_sub (List.forall_mem_cons.mpr ⟨List.mem_cons_of_mem _ (List.mem_append_left _ (List.mem_of_getElem? (i := 6) rfl)), List.forall_mem_cons.mpr ⟨List.mem_cons_of_mem _ (List.mem_append_left _ (List.mem_of_getElem? (i := 7) rfl)), List.forall_mem_cons.mpr ⟨List.mem_cons_of_mem _ (List.mem_append_left _ (List.mem_of_getElem? (i := 8) rfl)), List.forall_mem_cons.mpr ⟨List.mem_cons_of_mem _ (List.mem_append_left _ (List.mem_of_getElem? (i := 3) rfl)), fun _ h => absurd h List.not_mem_nil⟩⟩⟩⟩) (by decide +kernel)) gw_X9_asksChance_X9_layChance
theorem gw_X9_asksChance_X9_isBase : GoodIn W_X9_asksChance W_X9_isBase := fun w h => ⟨List.mem_cons_of_mem _ (List.mem_append_right _ (List.mem_append_left _ (h))), (wI_X9_isBase w h).2⟩
theorem gc_X9_asksChance_92_X9_isBase : GoodIn W_X9_asksChance (wsV RX9 92 RX9 yX9_isBase W_X9_isBase) := goodIn_app (goodIn_sub (List.forall_mem_cons.mpr ⟨List.mem_cons_of_mem _ (List.mem_append_left _ (List.mem_of_getElem? (i := 0) rfl)), List.forall_mem_cons.mpr ⟨List.mem_cons_of_mem _ (List.mem_append_left _ (List.mem_of_getElem? (i := 1) rfl)), List.forall_mem_cons.mpr ⟨List.mem_cons_of_mem _ (List.mem_append_left _ (List.mem_of_getElem? (i := 2) rfl)), List.forall_mem_cons.mpr ⟨List.mem_cons_of_mem _ (List.mem_append_left _ (List.mem_of_getElem? (i := 3) rfl)), fun _ h => absurd h List.not_mem_nil⟩⟩⟩⟩) (by decide +kernel)) gw_X9_asksChance_X9_isBase
theorem gw_X9_chance_X9_part : GoodIn W_X9_chance W_X9_part := fun w h => ⟨List.mem_cons_of_mem _ (List.mem_append_right _ (List.mem_append_right _ (List.mem_append_right _ (h)))), (wI_X9_part w h).2⟩
theorem gc_X9_chance_470_X9_part : GoodIn W_X9_chance (va_wsS RX9 470 yX9_part W_X9_part) := goodIn_app (goodIn_sub (List.forall_mem_cons.mpr ⟨List.mem_cons_of_mem _ (List.mem_append_left _ (List.mem_of_getElem? (i := 6) rfl)), List.forall_mem_cons.mpr ⟨List.mem_cons_of_mem _ (List.mem_append_left _ (List.mem_of_getElem? (i := 7) rfl)), List.forall_mem_cons.mpr ⟨List.mem_cons_of_mem _ (List.mem_append_left _ (List.mem_of_getElem? (i := 3) rfl)), fun _ h => absurd h List.not_mem_nil⟩⟩⟩) (by decide +kernel)) gw_X9_chance_X9_part
theorem gw_X9_chance_X9_asksChance : GoodIn W_X9_chance W_X9_asksChance := fun w h => ⟨List.mem_cons_of_mem _ (List.mem_append_right _ (List.mem_append_right _ (List.mem_append_left _ (h)))), (wI_X9_asksChance w h).2⟩
theorem gc_X9_chance_494_X9_asksChance : GoodIn W_X9_chance (wsV RX9 494 RX9 yX9_asksChance W_X9_asksChance) := goodIn_app (goodIn_sub (List.forall_mem_cons.mpr ⟨List.mem_cons_of_mem _ (List.mem_append_left _ (List.mem_of_getElem? (i := 0) rfl)), List.forall_mem_cons.mpr ⟨List.mem_cons_of_mem _ (List.mem_append_left _ (List.mem_of_getElem? (i := 1) rfl)), List.forall_mem_cons.mpr ⟨List.mem_cons_of_mem _ (List.mem_append_left _ (List.mem_of_getElem? (i := 2) rfl)), List.forall_mem_cons.mpr ⟨List.mem_cons_of_mem _ (List.mem_append_left _ (List.mem_of_getElem? (i := 3) rfl)), fun _ h => absurd h List.not_mem_nil⟩⟩⟩⟩) (by decide +kernel)) gw_X9_chance_X9_asksChance
theorem gw_X9_count_X9_in : GoodIn W_X9_count W_X9_in := fun w h => ⟨List.mem_cons_of_mem _ (List.mem_append_right _ (List.mem_append_right _ (h))), (wI_X9_in w h).2⟩
theorem gc_X9_count_76_X9_in : GoodIn W_X9_count (va_wsS RX9 76 yX9_in W_X9_in) := goodIn_app (goodIn_sub (List.forall_mem_cons.mpr ⟨List.mem_cons_of_mem _ (List.mem_append_left _ (List.mem_of_getElem? (i := 1) rfl)), List.forall_mem_cons.mpr ⟨List.mem_cons_of_mem _ (List.mem_append_left _ (List.mem_of_getElem? (i := 2) rfl)), List.forall_mem_cons.mpr ⟨List.mem_cons_of_mem _ (List.mem_append_left _ (List.mem_of_getElem? (i := 3) rfl)), fun _ h => absurd h List.not_mem_nil⟩⟩⟩) (by decide +kernel)) gw_X9_count_X9_in
theorem gw_X9_drawn_X9_isSeed : GoodIn W_X9_drawn W_X9_isSeed := fun w h => ⟨List.mem_cons_of_mem _ (List.mem_append_right _ (List.mem_append_right _ (List.mem_append_left _ (h)))), (wI_X9_isSeed w h).2⟩
theorem gc_X9_drawn_514_X9_isSeed : GoodIn W_X9_drawn (va_wsS RX9 514 yX9_isSeed W_X9_isSeed) := goodIn_app (goodIn_sub (List.forall_mem_cons.mpr ⟨List.mem_cons_of_mem _ (List.mem_append_left _ (List.mem_of_getElem? (i := 4) rfl)), List.forall_mem_cons.mpr ⟨List.mem_cons_of_mem _ (List.mem_append_left _ (List.mem_of_getElem? (i := 5) rfl)), List.forall_mem_cons.mpr ⟨List.mem_cons_of_mem _ (List.mem_append_left _ (List.mem_of_getElem? (i := 3) rfl)), fun _ h => absurd h List.not_mem_nil⟩⟩⟩) (by decide +kernel)) gw_X9_drawn_X9_isSeed
theorem gw_X9_drawn_X9_in : GoodIn W_X9_drawn W_X9_in := fun w h => ⟨List.mem_cons_of_mem _ (List.mem_append_right _ (List.mem_append_right _ (List.mem_append_right _ (List.mem_append_left _ (h))))), (wI_X9_in w h).2⟩
theorem gc_X9_drawn_76_X9_in : GoodIn W_X9_drawn (va_wsS RX9 76 yX9_in W_X9_in) := goodIn_app (goodIn_sub (List.forall_mem_cons.mpr ⟨List.mem_cons_of_mem _ (List.mem_append_left _ (List.mem_of_getElem? (i := 6) rfl)), List.forall_mem_cons.mpr ⟨List.mem_cons_of_mem _ (List.mem_append_left _ (List.mem_of_getElem? (i := 7) rfl)), List.forall_mem_cons.mpr ⟨List.mem_cons_of_mem _ (List.mem_append_left _ (List.mem_of_getElem? (i := 3) rfl)), fun _ h => absurd h List.not_mem_nil⟩⟩⟩) (by decide +kernel)) gw_X9_drawn_X9_in
theorem gw_X9_drawn_X9_allRules : GoodIn W_X9_drawn W_X9_allRules := fun w h => ⟨List.mem_cons_of_mem _ (List.mem_append_right _ (List.mem_append_right _ (List.mem_append_right _ (List.mem_append_right _ (List.mem_append_right _ (List.mem_append_left _ (h))))))), (wI_X9_allRules w h).2⟩
theorem gc_X9_drawn_402_X9_allRules : GoodIn W_X9_drawn (wsV RX9 402 RX9 yX9_allRules W_X9_allRules) := goodIn_app (goodIn_sub (List.forall_mem_cons.mpr ⟨List.mem_cons_of_mem _ (List.mem_append_left _ (List.mem_of_getElem? (i := 11) rfl)), List.forall_mem_cons.mpr ⟨List.mem_cons_of_mem _ (List.mem_append_left _ (List.mem_of_getElem? (i := 12) rfl)), List.forall_mem_cons.mpr ⟨List.mem_cons_of_mem _ (List.mem_append_left _ (List.mem_of_getElem? (i := 13) rfl)), List.forall_mem_cons.mpr ⟨List.mem_cons_of_mem _ (List.mem_append_left _ (List.mem_of_getElem? (i := 3) rfl)), fun _ h => absurd h List.not_mem_nil⟩⟩⟩⟩) (by decide +kernel)) gw_X9_drawn_X9_allRules
theorem gw_X9_drawn_X9_worthOf : GoodIn W_X9_drawn W_X9_worthOf := fun w h => ⟨List.mem_cons_of_mem _ (List.mem_append_right _ (List.mem_append_right _ (List.mem_append_right _ (List.mem_append_right _ (List.mem_append_right _ (List.mem_append_right _ (h))))))), (wI_X9_worthOf w h).2⟩
theorem gc_X9_drawn_455_X9_worthOf : GoodIn W_X9_drawn (wsV RX9 455 RX9 yX9_worthOf W_X9_worthOf) := goodIn_app (goodIn_sub (List.forall_mem_cons.mpr ⟨List.mem_cons_of_mem _ (List.mem_append_left _ (List.mem_of_getElem? (i := 14) rfl)), List.forall_mem_cons.mpr ⟨List.mem_cons_of_mem _ (List.mem_append_left _ (List.mem_of_getElem? (i := 15) rfl)), List.forall_mem_cons.mpr ⟨List.mem_cons_of_mem _ (List.mem_append_left _ (List.mem_of_getElem? (i := 16) rfl)), List.forall_mem_cons.mpr ⟨List.mem_cons_of_mem _ (List.mem_append_left _ (List.mem_of_getElem? (i := 3) rfl)), fun _ h => absurd h List.not_mem_nil⟩⟩⟩⟩) (by decide +kernel)) gw_X9_drawn_X9_worthOf
theorem gw_X9_drawn_X9_drawnSet : GoodIn W_X9_drawn W_X9_drawnSet := fun w h => ⟨List.mem_cons_of_mem _ (List.mem_append_right _ (List.mem_append_right _ (List.mem_append_right _ (List.mem_append_right _ (List.mem_append_left _ (h)))))), (wI_X9_drawnSet w h).2⟩
theorem gc_X9_drawn_517_X9_drawnSet : GoodIn W_X9_drawn (wsV RX9 517 RX9 yX9_drawnSet W_X9_drawnSet) := goodIn_app (goodIn_sub (List.forall_mem_cons.mpr ⟨List.mem_cons_of_mem _ (List.mem_append_left _ (List.mem_of_getElem? (i := 8) rfl)), List.forall_mem_cons.mpr ⟨List.mem_cons_of_mem _ (List.mem_append_left _ (List.mem_of_getElem? (i := 9) rfl)), List.forall_mem_cons.mpr ⟨List.mem_cons_of_mem _ (List.mem_append_left _ (List.mem_of_getElem? (i := 10) rfl)), List.forall_mem_cons.mpr ⟨List.mem_cons_of_mem _ (List.mem_append_left _ (List.mem_of_getElem? (i := 3) rfl)), fun _ h => absurd h List.not_mem_nil⟩⟩⟩⟩) (by decide +kernel)) gw_X9_drawn_X9_drawnSet
theorem gw_X9_drawn_X9_isBase : GoodIn W_X9_drawn W_X9_isBase := fun w h => ⟨List.mem_cons_of_mem _ (List.mem_append_right _ (List.mem_append_left _ (h))), (wI_X9_isBase w h).2⟩
theorem gc_X9_drawn_92_X9_isBase : GoodIn W_X9_drawn (wsV RX9 92 RX9 yX9_isBase W_X9_isBase) := goodIn_app (goodIn_sub (List.forall_mem_cons.mpr ⟨List.mem_cons_of_mem _ (List.mem_append_left _ (List.mem_of_getElem? (i := 0) rfl)), List.forall_mem_cons.mpr ⟨List.mem_cons_of_mem _ (List.mem_append_left _ (List.mem_of_getElem? (i := 1) rfl)), List.forall_mem_cons.mpr ⟨List.mem_cons_of_mem _ (List.mem_append_left _ (List.mem_of_getElem? (i := 2) rfl)), List.forall_mem_cons.mpr ⟨List.mem_cons_of_mem _ (List.mem_append_left _ (List.mem_of_getElem? (i := 3) rfl)), fun _ h => absurd h List.not_mem_nil⟩⟩⟩⟩) (by decide +kernel)) gw_X9_drawn_X9_isBase
theorem gw_X9_drawnSet_X9_rules : GoodIn W_X9_drawnSet W_X9_rules := fun w h => ⟨List.mem_cons_of_mem _ (List.mem_append_right _ (List.mem_append_right _ (h))), (wI_X9_rules w h).2⟩
theorem gc_X9_drawnSet_80_X9_rules : GoodIn W_X9_drawnSet (wsV RX9 80 RX9 yX9_rules W_X9_rules) := goodIn_app (goodIn_sub (List.forall_mem_cons.mpr ⟨List.mem_cons_of_mem _ (List.mem_append_left _ (List.mem_of_getElem? (i := 0) rfl)), List.forall_mem_cons.mpr ⟨List.mem_cons_of_mem _ (List.mem_append_left _ (List.mem_of_getElem? (i := 1) rfl)), List.forall_mem_cons.mpr ⟨List.mem_cons_of_mem _ (List.mem_append_left _ (List.mem_of_getElem? (i := 2) rfl)), List.forall_mem_cons.mpr ⟨List.mem_cons_of_mem _ (List.mem_append_left _ (List.mem_of_getElem? (i := 3) rfl)), fun _ h => absurd h List.not_mem_nil⟩⟩⟩⟩) (by decide +kernel)) gw_X9_drawnSet_X9_rules
theorem gw_X9_drops_X9_isRule : GoodIn W_X9_drops W_X9_isRule := fun w h => ⟨List.mem_cons_of_mem _ (List.mem_append_right _ (List.mem_append_left _ (h))), (wI_X9_isRule w h).2⟩
theorem gc_X9_drops_256_X9_isRule : GoodIn W_X9_drops (wsV RX9 256 RX9 yX9_isRule W_X9_isRule) := goodIn_app (goodIn_sub (List.forall_mem_cons.mpr ⟨List.mem_cons_of_mem _ (List.mem_append_left _ (List.mem_of_getElem? (i := 0) rfl)), List.forall_mem_cons.mpr ⟨List.mem_cons_of_mem _ (List.mem_append_left _ (List.mem_of_getElem? (i := 1) rfl)), List.forall_mem_cons.mpr ⟨List.mem_cons_of_mem _ (List.mem_append_left _ (List.mem_of_getElem? (i := 2) rfl)), List.forall_mem_cons.mpr ⟨List.mem_cons_of_mem _ (List.mem_append_left _ (List.mem_of_getElem? (i := 3) rfl)), fun _ h => absurd h List.not_mem_nil⟩⟩⟩⟩) (by decide +kernel)) gw_X9_drops_X9_isRule
theorem gw_X9_drops_X9_keepAct : GoodIn W_X9_drops W_X9_keepAct := fun w h => ⟨List.mem_cons_of_mem _ (List.mem_append_right _ (List.mem_append_right _ (h))), (wI_X9_keepAct w h).2⟩
theorem gc_X9_drops_499_X9_keepAct : GoodIn W_X9_drops (wsV RX9 499 RX9 yX9_keepAct W_X9_keepAct) := goodIn_app (goodIn_sub (List.forall_mem_cons.mpr ⟨List.mem_cons_of_mem _ (List.mem_append_left _ (List.mem_of_getElem? (i := 4) rfl)), List.forall_mem_cons.mpr ⟨List.mem_cons_of_mem _ (List.mem_append_left _ (List.mem_of_getElem? (i := 5) rfl)), List.forall_mem_cons.mpr ⟨List.mem_cons_of_mem _ (List.mem_append_left _ (List.mem_of_getElem? (i := 6) rfl)), List.forall_mem_cons.mpr ⟨List.mem_cons_of_mem _ (List.mem_append_left _ (List.mem_of_getElem? (i := 3) rfl)), fun _ h => absurd h List.not_mem_nil⟩⟩⟩⟩) (by decide +kernel)) gw_X9_drops_X9_keepAct
theorem gw_X9_frees_X9_isOp : GoodIn W_X9_frees W_X9_isOp := fun w h => ⟨List.mem_cons_of_mem _ (List.mem_append_right _ (List.mem_append_left _ (h))), (wI_X9_isOp w h).2⟩
theorem gc_X9_frees_267_X9_isOp : GoodIn W_X9_frees (wsV RX9 267 RX9 yX9_isOp W_X9_isOp) := goodIn_app (goodIn_sub (List.forall_mem_cons.mpr ⟨List.mem_cons_of_mem _ (List.mem_append_left _ (List.mem_of_getElem? (i := 0) rfl)), List.forall_mem_cons.mpr ⟨List.mem_cons_of_mem _ (List.mem_append_left _ (List.mem_of_getElem? (i := 1) rfl)), List.forall_mem_cons.mpr ⟨List.mem_cons_of_mem _ (List.mem_append_left _ (List.mem_of_getElem? (i := 2) rfl)), List.forall_mem_cons.mpr ⟨List.mem_cons_of_mem _ (List.mem_append_left _ (List.mem_of_getElem? (i := 3) rfl)), fun _ h => absurd h List.not_mem_nil⟩⟩⟩⟩) (by decide +kernel)) gw_X9_frees_X9_isOp
theorem gw_X9_frees_X9_keepAct : GoodIn W_X9_frees W_X9_keepAct := fun w h => ⟨List.mem_cons_of_mem _ (List.mem_append_right _ (List.mem_append_right _ (h))), (wI_X9_keepAct w h).2⟩
theorem gc_X9_frees_499_X9_keepAct : GoodIn W_X9_frees (wsV RX9 499 RX9 yX9_keepAct W_X9_keepAct) := goodIn_app (goodIn_sub (List.forall_mem_cons.mpr ⟨List.mem_cons_of_mem _ (List.mem_append_left _ (List.mem_of_getElem? (i := 4) rfl)), List.forall_mem_cons.mpr ⟨List.mem_cons_of_mem _ (List.mem_append_left _ (List.mem_of_getElem? (i := 5) rfl)), List.forall_mem_cons.mpr ⟨List.mem_cons_of_mem _ (List.mem_append_left _ (List.mem_of_getElem? (i := 6) rfl)), List.forall_mem_cons.mpr ⟨List.mem_cons_of_mem _ (List.mem_append_left _ (List.mem_of_getElem? (i := 3) rfl)), fun _ h => absurd h List.not_mem_nil⟩⟩⟩⟩) (by decide +kernel)) gw_X9_frees_X9_keepAct
theorem gw_X9_gets_X9_in : GoodIn W_X9_gets W_X9_in := fun w h => ⟨List.mem_cons_of_mem _ (List.mem_append_right _ (List.mem_append_right _ (List.mem_append_left _ (h)))), (wI_X9_in w h).2⟩
theorem gc_X9_gets_76_X9_in : GoodIn W_X9_gets (va_wsS RX9 76 yX9_in W_X9_in) := goodIn_app (goodIn_sub (List.forall_mem_cons.mpr ⟨List.mem_cons_of_mem _ (List.mem_append_left _ (List.mem_of_getElem? (i := 4) rfl)), List.forall_mem_cons.mpr ⟨List.mem_cons_of_mem _ (List.mem_append_left _ (List.mem_of_getElem? (i := 5) rfl)), List.forall_mem_cons.mpr ⟨List.mem_cons_of_mem _ (List.mem_append_left _ (List.mem_of_getElem? (i := 3) rfl)), fun _ h => absurd h List.not_mem_nil⟩⟩⟩) (by decide +kernel)) gw_X9_gets_X9_in
theorem gw_X9_gets_X9_areTwo : GoodIn W_X9_gets W_X9_areTwo := fun w h => ⟨List.mem_cons_of_mem _ (List.mem_append_right _ (List.mem_append_left _ (h))), (wI_X9_areTwo w h).2⟩
theorem gc_X9_gets_474_X9_areTwo : GoodIn W_X9_gets (wsV RX9 474 RX9 yX9_areTwo W_X9_areTwo) := goodIn_app (goodIn_sub (List.forall_mem_cons.mpr ⟨List.mem_cons_of_mem _ (List.mem_append_left _ (List.mem_of_getElem? (i := 0) rfl)), List.forall_mem_cons.mpr ⟨List.mem_cons_of_mem _ (List.mem_append_left _ (List.mem_of_getElem? (i := 1) rfl)), List.forall_mem_cons.mpr ⟨List.mem_cons_of_mem _ (List.mem_append_left _ (List.mem_of_getElem? (i := 2) rfl)), List.forall_mem_cons.mpr ⟨List.mem_cons_of_mem _ (List.mem_append_left _ (List.mem_of_getElem? (i := 3) rfl)), fun _ h => absurd h List.not_mem_nil⟩⟩⟩⟩) (by decide +kernel)) gw_X9_gets_X9_areTwo
theorem gw_X9_gets_X9_getsBy : GoodIn W_X9_gets W_X9_getsBy := fun w h => ⟨List.mem_cons_of_mem _ (List.mem_append_right _ (List.mem_append_right _ (List.mem_append_right _ (h)))), (wI_X9_getsBy w h).2⟩
theorem gc_X9_gets_477_X9_getsBy : GoodIn W_X9_gets (wsV RX9 477 RX9 yX9_getsBy W_X9_getsBy) := goodIn_app (goodIn_sub (List.forall_mem_cons.mpr ⟨List.mem_cons_of_mem _ (List.mem_append_left _ (List.mem_of_getElem? (i := 6) rfl)), List.forall_mem_cons.mpr ⟨List.mem_cons_of_mem _ (List.mem_append_left _ (List.mem_of_getElem? (i := 7) rfl)), List.forall_mem_cons.mpr ⟨List.mem_cons_of_mem _ (List.mem_append_left _ (List.mem_of_getElem? (i := 8) rfl)), List.forall_mem_cons.mpr ⟨List.mem_cons_of_mem _ (List.mem_append_left _ (List.mem_of_getElem? (i := 3) rfl)), fun _ h => absurd h List.not_mem_nil⟩⟩⟩⟩) (by decide +kernel)) gw_X9_gets_X9_getsBy
theorem gw_X9_getsBy_X9_asks : GoodIn W_X9_getsBy W_X9_asks := fun w h => ⟨List.mem_cons_of_mem _ (List.mem_append_right _ (List.mem_append_right _ (List.mem_append_left _ (h)))), (wI_X9_asks w h).2⟩
theorem gc_X9_getsBy_318_X9_asks : GoodIn W_X9_getsBy (wsV RX9 318 RX9 yX9_asks W_X9_asks) := goodIn_app (goodIn_sub (List.forall_mem_cons.mpr ⟨List.mem_cons_of_mem _ (List.mem_append_left _ (List.mem_of_getElem? (i := 0) rfl)), List.forall_mem_cons.mpr ⟨List.mem_cons_of_mem _ (List.mem_append_left _ (List.mem_of_getElem? (i := 1) rfl)), List.forall_mem_cons.mpr ⟨List.mem_cons_of_mem _ (List.mem_append_left _ (List.mem_of_getElem? (i := 2) rfl)), List.forall_mem_cons.mpr ⟨List.mem_cons_of_mem _ (List.mem_append_left _ (List.mem_of_getElem? (i := 3) rfl)), fun _ h => absurd h List.not_mem_nil⟩⟩⟩⟩) (by decide +kernel)) gw_X9_getsBy_X9_asks
theorem gw_X9_getsBy_X9_worksOf : GoodIn W_X9_getsBy W_X9_worksOf := fun w h => ⟨List.mem_cons_of_mem _ (List.mem_append_right _ (List.mem_append_right _ (List.mem_append_right _ (List.mem_append_left _ (h))))), (wI_X9_worksOf w h).2⟩
theorem gc_X9_getsBy_328_X9_worksOf : GoodIn W_X9_getsBy (wsV RX9 328 RX9 yX9_worksOf W_X9_worksOf) := goodIn_app (goodIn_sub (List.forall_mem_cons.mpr ⟨List.mem_cons_of_mem _ (List.mem_append_left _ (List.mem_of_getElem? (i := 5) rfl)), List.forall_mem_cons.mpr ⟨List.mem_cons_of_mem _ (List.mem_append_left _ (List.mem_of_getElem? (i := 6) rfl)), List.forall_mem_cons.mpr ⟨List.mem_cons_of_mem _ (List.mem_append_left _ (List.mem_of_getElem? (i := 7) rfl)), List.forall_mem_cons.mpr ⟨List.mem_cons_of_mem _ (List.mem_append_left _ (List.mem_of_getElem? (i := 3) rfl)), fun _ h => absurd h List.not_mem_nil⟩⟩⟩⟩) (by decide +kernel)) gw_X9_getsBy_X9_worksOf
theorem gw_X9_getsBy_X9_breaksIn : GoodIn W_X9_getsBy W_X9_breaksIn := fun w h => ⟨List.mem_cons_of_mem _ (List.mem_append_right _ (List.mem_append_right _ (List.mem_append_right _ (List.mem_append_right _ (h))))), (wI_X9_breaksIn w h).2⟩
theorem gc_X9_getsBy_393_X9_breaksIn : GoodIn W_X9_getsBy (wsV RX9 393 RX9 yX9_breaksIn W_X9_breaksIn) := goodIn_app (goodIn_sub (List.forall_mem_cons.mpr ⟨List.mem_cons_of_mem _ (List.mem_append_left _ (List.mem_of_getElem? (i := 8) rfl)), List.forall_mem_cons.mpr ⟨List.mem_cons_of_mem _ (List.mem_append_left _ (List.mem_of_getElem? (i := 9) rfl)), List.forall_mem_cons.mpr ⟨List.mem_cons_of_mem _ (List.mem_append_left _ (List.mem_of_getElem? (i := 10) rfl)), List.forall_mem_cons.mpr ⟨List.mem_cons_of_mem _ (List.mem_append_left _ (List.mem_of_getElem? (i := 3) rfl)), fun _ h => absurd h List.not_mem_nil⟩⟩⟩⟩) (by decide +kernel)) gw_X9_getsBy_X9_breaksIn
theorem gw_X9_keepAct_X9_asks : GoodIn W_X9_keepAct W_X9_asks := fun w h => ⟨List.mem_cons_of_mem _ (List.mem_append_right _ (List.mem_append_right _ (List.mem_append_left _ (h)))), (wI_X9_asks w h).2⟩
theorem gc_X9_keepAct_318_X9_asks : GoodIn W_X9_keepAct (wsV RX9 318 RX9 yX9_asks W_X9_asks) := goodIn_app (goodIn_sub (List.forall_mem_cons.mpr ⟨List.mem_cons_of_mem _ (List.mem_append_left _ (List.mem_of_getElem? (i := 1) rfl)), List.forall_mem_cons.mpr ⟨List.mem_cons_of_mem _ (List.mem_append_left _ (List.mem_of_getElem? (i := 2) rfl)), List.forall_mem_cons.mpr ⟨List.mem_cons_of_mem _ (List.mem_append_left _ (List.mem_of_getElem? (i := 3) rfl)), List.forall_mem_cons.mpr ⟨List.mem_cons_of_mem _ (List.mem_append_left _ (List.mem_of_getElem? (i := 4) rfl)), fun _ h => absurd h List.not_mem_nil⟩⟩⟩⟩) (by decide +kernel)) gw_X9_keepAct_X9_asks
theorem gw_X9_keepAct_X9_breaksIn : GoodIn W_X9_keepAct W_X9_breaksIn := fun w h => ⟨List.mem_cons_of_mem _ (List.mem_append_right _ (List.mem_append_right _ (List.mem_append_right _ (h)))), (wI_X9_breaksIn w h).2⟩
theorem gc_X9_keepAct_393_X9_breaksIn : GoodIn W_X9_keepAct (wsV RX9 393 RX9 yX9_breaksIn W_X9_breaksIn) := goodIn_app (goodIn_sub (List.forall_mem_cons.mpr ⟨List.mem_cons_of_mem _ (List.mem_append_left _ (List.mem_of_getElem? (i := 5) rfl)), List.forall_mem_cons.mpr ⟨List.mem_cons_of_mem _ (List.mem_append_left _ (List.mem_of_getElem? (i := 6) rfl)), List.forall_mem_cons.mpr ⟨List.mem_cons_of_mem _ (List.mem_append_left _ (List.mem_of_getElem? (i := 7) rfl)), List.forall_mem_cons.mpr ⟨List.mem_cons_of_mem _ (List.mem_append_left _ (List.mem_of_getElem? (i := 4) rfl)), fun _ h => absurd h List.not_mem_nil⟩⟩⟩⟩) (by decide +kernel)) gw_X9_keepAct_X9_breaksIn
theorem gw_X9_layChance_X9_bit : GoodIn W_X9_layChance W_X9_bit := fun w h => ⟨List.mem_cons_of_mem _ (List.mem_append_right _ (List.mem_append_right _ (List.mem_append_right _ (List.mem_append_left _ (h))))), (wI_X9_bit w h).2⟩
theorem gc_X9_layChance_288_X9_bit : GoodIn W_X9_layChance (va_wsS RX9 288 yX9_bit W_X9_bit) := goodIn_app (goodIn_sub (List.forall_mem_cons.mpr ⟨List.mem_cons_of_mem _ (List.mem_append_left _ (List.mem_of_getElem? (i := 7) rfl)), List.forall_mem_cons.mpr ⟨List.mem_cons_of_mem _ (List.mem_append_left _ (List.mem_of_getElem? (i := 8) rfl)), List.forall_mem_cons.mpr ⟨List.mem_cons_of_mem _ (List.mem_append_left _ (List.mem_of_getElem? (i := 6) rfl)), fun _ h => absurd h List.not_mem_nil⟩⟩⟩) (by decide +kernel)) gw_X9_layChance_X9_bit
theorem gw_X9_layChance_X9_validMany : GoodIn W_X9_layChance W_X9_validMany := fun w h => ⟨List.mem_cons_of_mem _ (List.mem_append_right _ (List.mem_append_right _ (List.mem_append_right _ (List.mem_append_right _ (List.mem_append_right _ (List.mem_append_right _ (h))))))), (wI_X9_validMany w h).2⟩
theorem gc_X9_layChance_321_X9_validMany : GoodIn W_X9_layChance (wsV RX9 321 RX9 yX9_validMany W_X9_validMany) := goodIn_app (goodIn_sub (List.forall_mem_cons.mpr ⟨List.mem_cons_of_mem _ (List.mem_append_left _ (List.mem_of_getElem? (i := 16) rfl)), List.forall_mem_cons.mpr ⟨List.mem_cons_of_mem _ (List.mem_append_left _ (List.mem_of_getElem? (i := 17) rfl)), List.forall_mem_cons.mpr ⟨List.mem_cons_of_mem _ (List.mem_append_left _ (List.mem_of_getElem? (i := 18) rfl)), List.forall_mem_cons.mpr ⟨List.mem_cons_of_mem _ (List.mem_append_left _ (List.mem_of_getElem? (i := 6) rfl)), fun _ h => absurd h List.not_mem_nil⟩⟩⟩⟩) (by decide +kernel)) gw_X9_layChance_X9_validMany
theorem gw_X9_layChance_X9_allRules : GoodIn W_X9_layChance W_X9_allRules := fun w h => ⟨List.mem_cons_of_mem _ (List.mem_append_right _ (List.mem_append_right _ (List.mem_append_right _ (List.mem_append_right _ (List.mem_append_left _ (h)))))), (wI_X9_allRules w h).2⟩
theorem gc_X9_layChance_402_X9_allRules : GoodIn W_X9_layChance (wsV RX9 402 RX9 yX9_allRules W_X9_allRules) := goodIn_app (goodIn_sub (List.forall_mem_cons.mpr ⟨List.mem_cons_of_mem _ (List.mem_append_left _ (List.mem_of_getElem? (i := 10) rfl)), List.forall_mem_cons.mpr ⟨List.mem_cons_of_mem _ (List.mem_append_left _ (List.mem_of_getElem? (i := 11) rfl)), List.forall_mem_cons.mpr ⟨List.mem_cons_of_mem _ (List.mem_append_left _ (List.mem_of_getElem? (i := 12) rfl)), List.forall_mem_cons.mpr ⟨List.mem_cons_of_mem _ (List.mem_append_left _ (List.mem_of_getElem? (i := 6) rfl)), fun _ h => absurd h List.not_mem_nil⟩⟩⟩⟩) (by decide +kernel)) gw_X9_layChance_X9_allRules
theorem gw_X9_layChance_X9_worthOf : GoodIn W_X9_layChance W_X9_worthOf := fun w h => ⟨List.mem_cons_of_mem _ (List.mem_append_right _ (List.mem_append_right _ (List.mem_append_right _ (List.mem_append_right _ (List.mem_append_right _ (List.mem_append_left _ (h))))))), (wI_X9_worthOf w h).2⟩
theorem gc_X9_layChance_455_X9_worthOf : GoodIn W_X9_layChance (wsV RX9 455 RX9 yX9_worthOf W_X9_worthOf) := goodIn_app (goodIn_sub (List.forall_mem_cons.mpr ⟨List.mem_cons_of_mem _ (List.mem_append_left _ (List.mem_of_getElem? (i := 13) rfl)), List.forall_mem_cons.mpr ⟨List.mem_cons_of_mem _ (List.mem_append_left _ (List.mem_of_getElem? (i := 14) rfl)), List.forall_mem_cons.mpr ⟨List.mem_cons_of_mem _ (List.mem_append_left _ (List.mem_of_getElem? (i := 15) rfl)), List.forall_mem_cons.mpr ⟨List.mem_cons_of_mem _ (List.mem_append_left _ (List.mem_of_getElem? (i := 6) rfl)), fun _ h => absurd h List.not_mem_nil⟩⟩⟩⟩) (by decide +kernel)) gw_X9_layChance_X9_worthOf
theorem gw_X9_layChance_X9_rules : GoodIn W_X9_layChance W_X9_rules := fun w h => ⟨List.mem_cons_of_mem _ (List.mem_append_right _ (List.mem_append_right _ (List.mem_append_left _ (h)))), (wI_X9_rules w h).2⟩
theorem gc_X9_layChance_80_X9_rules : GoodIn W_X9_layChance (wsV RX9 80 RX9 yX9_rules W_X9_rules) := goodIn_app (goodIn_sub (List.forall_mem_cons.mpr ⟨List.mem_cons_of_mem _ (List.mem_append_left _ (List.mem_of_getElem? (i := 3) rfl)), List.forall_mem_cons.mpr ⟨List.mem_cons_of_mem _ (List.mem_append_left _ (List.mem_of_getElem? (i := 4) rfl)), List.forall_mem_cons.mpr ⟨List.mem_cons_of_mem _ (List.mem_append_left _ (List.mem_of_getElem? (i := 5) rfl)), List.forall_mem_cons.mpr ⟨List.mem_cons_of_mem _ (List.mem_append_left _ (List.mem_of_getElem? (i := 6) rfl)), fun _ h => absurd h List.not_mem_nil⟩⟩⟩⟩) (by decide +kernel)) gw_X9_layChance_X9_rules
theorem gw_X9_lock_X9_isOp : GoodIn W_X9_lock W_X9_isOp := fun w h => ⟨List.mem_cons_of_mem _ (List.mem_append_right _ (List.mem_append_left _ (h))), (wI_X9_isOp w h).2⟩
theorem gc_X9_lock_267_X9_isOp : GoodIn W_X9_lock (wsV RX9 267 RX9 yX9_isOp W_X9_isOp) := goodIn_app (goodIn_sub (List.forall_mem_cons.mpr ⟨List.mem_cons_of_mem _ (List.mem_append_left _ (List.mem_of_getElem? (i := 0) rfl)), List.forall_mem_cons.mpr ⟨List.mem_cons_of_mem _ (List.mem_append_left _ (List.mem_of_getElem? (i := 1) rfl)), List.forall_mem_cons.mpr ⟨List.mem_cons_of_mem _ (List.mem_append_left _ (List.mem_of_getElem? (i := 2) rfl)), List.forall_mem_cons.mpr ⟨List.mem_cons_of_mem _ (List.mem_append_left _ (List.mem_of_getElem? (i := 3) rfl)), fun _ h => absurd h List.not_mem_nil⟩⟩⟩⟩) (by decide +kernel)) gw_X9_lock_X9_isOp
theorem gw_X9_lock_X9_keepAct : GoodIn W_X9_lock W_X9_keepAct := fun w h => ⟨List.mem_cons_of_mem _ (List.mem_append_right _ (List.mem_append_right _ (h))), (wI_X9_keepAct w h).2⟩
theorem gc_X9_lock_499_X9_keepAct : GoodIn W_X9_lock (wsV RX9 499 RX9 yX9_keepAct W_X9_keepAct) := goodIn_app (goodIn_sub (List.forall_mem_cons.mpr ⟨List.mem_cons_of_mem _ (List.mem_append_left _ (List.mem_of_getElem? (i := 4) rfl)), List.forall_mem_cons.mpr ⟨List.mem_cons_of_mem _ (List.mem_append_left _ (List.mem_of_getElem? (i := 5) rfl)), List.forall_mem_cons.mpr ⟨List.mem_cons_of_mem _ (List.mem_append_left _ (List.mem_of_getElem? (i := 6) rfl)), List.forall_mem_cons.mpr ⟨List.mem_cons_of_mem _ (List.mem_append_left _ (List.mem_of_getElem? (i := 3) rfl)), fun _ h => absurd h List.not_mem_nil⟩⟩⟩⟩) (by decide +kernel)) gw_X9_lock_X9_keepAct
theorem gw_X9_luck_X9_isSeed : GoodIn W_X9_luck W_X9_isSeed := fun w h => ⟨List.mem_cons_of_mem _ (List.mem_append_right _ (List.mem_append_right _ (List.mem_append_left _ (h)))), (wI_X9_isSeed w h).2⟩
theorem gc_X9_luck_514_X9_isSeed : GoodIn W_X9_luck (va_wsS RX9 514 yX9_isSeed W_X9_isSeed) := goodIn_app (goodIn_sub (List.forall_mem_cons.mpr ⟨List.mem_cons_of_mem _ (List.mem_append_left _ (List.mem_of_getElem? (i := 4) rfl)), List.forall_mem_cons.mpr ⟨List.mem_cons_of_mem _ (List.mem_append_left _ (List.mem_of_getElem? (i := 5) rfl)), List.forall_mem_cons.mpr ⟨List.mem_cons_of_mem _ (List.mem_append_left _ (List.mem_of_getElem? (i := 3) rfl)), fun _ h => absurd h List.not_mem_nil⟩⟩⟩) (by decide +kernel)) gw_X9_luck_X9_isSeed
theorem gw_X9_luck_X9_in : GoodIn W_X9_luck W_X9_in := fun w h => ⟨List.mem_cons_of_mem _ (List.mem_append_right _ (List.mem_append_right _ (List.mem_append_right _ (List.mem_append_left _ (h))))), (wI_X9_in w h).2⟩
theorem gc_X9_luck_76_X9_in : GoodIn W_X9_luck (va_wsS RX9 76 yX9_in W_X9_in) := goodIn_app (goodIn_sub (List.forall_mem_cons.mpr ⟨List.mem_cons_of_mem _ (List.mem_append_left _ (List.mem_of_getElem? (i := 7) rfl)), List.forall_mem_cons.mpr ⟨List.mem_cons_of_mem _ (List.mem_append_left _ (List.mem_of_getElem? (i := 8) rfl)), List.forall_mem_cons.mpr ⟨List.mem_cons_of_mem _ (List.mem_append_left _ (List.mem_of_getElem? (i := 3) rfl)), fun _ h => absurd h List.not_mem_nil⟩⟩⟩) (by decide +kernel)) gw_X9_luck_X9_in
theorem gw_X9_luck_X9_allRules : GoodIn W_X9_luck W_X9_allRules := fun w h => ⟨List.mem_cons_of_mem _ (List.mem_append_right _ (List.mem_append_right _ (List.mem_append_right _ (List.mem_append_right _ (List.mem_append_left _ (h)))))), (wI_X9_allRules w h).2⟩
theorem gc_X9_luck_402_X9_allRules : GoodIn W_X9_luck (wsV RX9 402 RX9 yX9_allRules W_X9_allRules) := goodIn_app (goodIn_sub (List.forall_mem_cons.mpr ⟨List.mem_cons_of_mem _ (List.mem_append_left _ (List.mem_of_getElem? (i := 9) rfl)), List.forall_mem_cons.mpr ⟨List.mem_cons_of_mem _ (List.mem_append_left _ (List.mem_of_getElem? (i := 10) rfl)), List.forall_mem_cons.mpr ⟨List.mem_cons_of_mem _ (List.mem_append_left _ (List.mem_of_getElem? (i := 11) rfl)), List.forall_mem_cons.mpr ⟨List.mem_cons_of_mem _ (List.mem_append_left _ (List.mem_of_getElem? (i := 3) rfl)), fun _ h => absurd h List.not_mem_nil⟩⟩⟩⟩) (by decide +kernel)) gw_X9_luck_X9_allRules
theorem gw_X9_luck_X9_worthOf : GoodIn W_X9_luck W_X9_worthOf := fun w h => ⟨List.mem_cons_of_mem _ (List.mem_append_right _ (List.mem_append_right _ (List.mem_append_right _ (List.mem_append_right _ (List.mem_append_right _ (List.mem_append_right _ (h))))))), (wI_X9_worthOf w h).2⟩
theorem gc_X9_luck_455_X9_worthOf : GoodIn W_X9_luck (wsV RX9 455 RX9 yX9_worthOf W_X9_worthOf) := goodIn_app (goodIn_sub (List.forall_mem_cons.mpr ⟨List.mem_cons_of_mem _ (List.mem_append_left _ (List.mem_of_getElem? (i := 15) rfl)), List.forall_mem_cons.mpr ⟨List.mem_cons_of_mem _ (List.mem_append_left _ (List.mem_of_getElem? (i := 16) rfl)), List.forall_mem_cons.mpr ⟨List.mem_cons_of_mem _ (List.mem_append_left _ (List.mem_of_getElem? (i := 17) rfl)), List.forall_mem_cons.mpr ⟨List.mem_cons_of_mem _ (List.mem_append_left _ (List.mem_of_getElem? (i := 3) rfl)), fun _ h => absurd h List.not_mem_nil⟩⟩⟩⟩) (by decide +kernel)) gw_X9_luck_X9_worthOf
theorem gw_X9_luck_X9_drawnSet : GoodIn W_X9_luck W_X9_drawnSet := fun w h => ⟨List.mem_cons_of_mem _ (List.mem_append_right _ (List.mem_append_right _ (List.mem_append_right _ (List.mem_append_right _ (List.mem_append_right _ (List.mem_append_left _ (h))))))), (wI_X9_drawnSet w h).2⟩
theorem gc_X9_luck_517_X9_drawnSet : GoodIn W_X9_luck (wsV RX9 517 RX9 yX9_drawnSet W_X9_drawnSet) := goodIn_app (goodIn_sub (List.forall_mem_cons.mpr ⟨List.mem_cons_of_mem _ (List.mem_append_left _ (List.mem_of_getElem? (i := 12) rfl)), List.forall_mem_cons.mpr ⟨List.mem_cons_of_mem _ (List.mem_append_left _ (List.mem_of_getElem? (i := 13) rfl)), List.forall_mem_cons.mpr ⟨List.mem_cons_of_mem _ (List.mem_append_left _ (List.mem_of_getElem? (i := 14) rfl)), List.forall_mem_cons.mpr ⟨List.mem_cons_of_mem _ (List.mem_append_left _ (List.mem_of_getElem? (i := 3) rfl)), fun _ h => absurd h List.not_mem_nil⟩⟩⟩⟩) (by decide +kernel)) gw_X9_luck_X9_drawnSet
theorem gw_X9_luck_X9_isBase : GoodIn W_X9_luck W_X9_isBase := fun w h => ⟨List.mem_cons_of_mem _ (List.mem_append_right _ (List.mem_append_left _ (h))), (wI_X9_isBase w h).2⟩
theorem gc_X9_luck_92_X9_isBase : GoodIn W_X9_luck (wsV RX9 92 RX9 yX9_isBase W_X9_isBase) := goodIn_app (goodIn_sub (List.forall_mem_cons.mpr ⟨List.mem_cons_of_mem _ (List.mem_append_left _ (List.mem_of_getElem? (i := 0) rfl)), List.forall_mem_cons.mpr ⟨List.mem_cons_of_mem _ (List.mem_append_left _ (List.mem_of_getElem? (i := 1) rfl)), List.forall_mem_cons.mpr ⟨List.mem_cons_of_mem _ (List.mem_append_left _ (List.mem_of_getElem? (i := 2) rfl)), List.forall_mem_cons.mpr ⟨List.mem_cons_of_mem _ (List.mem_append_left _ (List.mem_of_getElem? (i := 3) rfl)), fun _ h => absurd h List.not_mem_nil⟩⟩⟩⟩) (by decide +kernel)) gw_X9_luck_X9_isBase
theorem gw_X9_mean_X9_part : GoodIn W_X9_mean W_X9_part := fun w h => ⟨List.mem_cons_of_mem _ (List.mem_append_right _ (List.mem_append_right _ (List.mem_append_right _ (h)))), (wI_X9_part w h).2⟩
theorem gc_X9_mean_470_X9_part : GoodIn W_X9_mean (va_wsS RX9 470 yX9_part W_X9_part) := goodIn_app (goodIn_sub (List.forall_mem_cons.mpr ⟨List.mem_cons_of_mem _ (List.mem_append_left _ (List.mem_of_getElem? (i := 6) rfl)), List.forall_mem_cons.mpr ⟨List.mem_cons_of_mem _ (List.mem_append_left _ (List.mem_of_getElem? (i := 7) rfl)), List.forall_mem_cons.mpr ⟨List.mem_cons_of_mem _ (List.mem_append_left _ (List.mem_of_getElem? (i := 3) rfl)), fun _ h => absurd h List.not_mem_nil⟩⟩⟩) (by decide +kernel)) gw_X9_mean_X9_part
theorem gw_X9_mean_X9_asksChance : GoodIn W_X9_mean W_X9_asksChance := fun w h => ⟨List.mem_cons_of_mem _ (List.mem_append_right _ (List.mem_append_right _ (List.mem_append_left _ (h)))), (wI_X9_asksChance w h).2⟩
theorem gc_X9_mean_494_X9_asksChance : GoodIn W_X9_mean (wsV RX9 494 RX9 yX9_asksChance W_X9_asksChance) := goodIn_app (goodIn_sub (List.forall_mem_cons.mpr ⟨List.mem_cons_of_mem _ (List.mem_append_left _ (List.mem_of_getElem? (i := 0) rfl)), List.forall_mem_cons.mpr ⟨List.mem_cons_of_mem _ (List.mem_append_left _ (List.mem_of_getElem? (i := 1) rfl)), List.forall_mem_cons.mpr ⟨List.mem_cons_of_mem _ (List.mem_append_left _ (List.mem_of_getElem? (i := 2) rfl)), List.forall_mem_cons.mpr ⟨List.mem_cons_of_mem _ (List.mem_append_left _ (List.mem_of_getElem? (i := 3) rfl)), fun _ h => absurd h List.not_mem_nil⟩⟩⟩⟩) (by decide +kernel)) gw_X9_mean_X9_asksChance
theorem gw_X9_part_X9_divisor : GoodIn W_X9_part W_X9_divisor := fun w h => ⟨List.mem_cons_of_mem _ (List.mem_append_right _ (h)), (wI_X9_divisor w h).2⟩
theorem gc_X9_part_462_X9_divisor : GoodIn W_X9_part (va_wsS RX9 462 yX9_divisor W_X9_divisor) := goodIn_app (goodIn_sub (List.forall_mem_cons.mpr ⟨List.mem_cons_of_mem _ (List.mem_append_left _ (List.mem_of_getElem? (i := 0) rfl)), List.forall_mem_cons.mpr ⟨List.mem_cons_of_mem _ (List.mem_append_left _ (List.mem_of_getElem? (i := 1) rfl)), List.forall_mem_cons.mpr ⟨List.mem_cons_of_mem _ (List.mem_append_left _ (List.mem_of_getElem? (i := 2) rfl)), fun _ h => absurd h List.not_mem_nil⟩⟩⟩) (by decide +kernel)) gw_X9_part_X9_divisor
theorem gw_X9_rate_X9_in : GoodIn W_X9_rate W_X9_in := fun w h => ⟨List.mem_cons_of_mem _ (List.mem_append_right _ (List.mem_append_right _ (List.mem_append_right _ (h)))), (wI_X9_in w h).2⟩
theorem gc_X9_rate_76_X9_in : GoodIn W_X9_rate (va_wsS RX9 76 yX9_in W_X9_in) := goodIn_app (goodIn_sub (List.forall_mem_cons.mpr ⟨List.mem_cons_of_mem _ (List.mem_append_left _ (List.mem_of_getElem? (i := 5) rfl)), List.forall_mem_cons.mpr ⟨List.mem_cons_of_mem _ (List.mem_append_left _ (List.mem_of_getElem? (i := 6) rfl)), List.forall_mem_cons.mpr ⟨List.mem_cons_of_mem _ (List.mem_append_left _ (List.mem_of_getElem? (i := 3) rfl)), fun _ h => absurd h List.not_mem_nil⟩⟩⟩) (by decide +kernel)) gw_X9_rate_X9_in
theorem gw_X9_rate_X9_isCell : GoodIn W_X9_rate W_X9_isCell := fun w h => ⟨List.mem_cons_of_mem _ (List.mem_append_right _ (List.mem_append_right _ (List.mem_append_left _ (h)))), (wI_X9_isCell w h).2⟩
theorem gc_X9_rate_252_X9_isCell : GoodIn W_X9_rate (wsV RX9 252 RX9 yX9_isCell W_X9_isCell) := goodIn_app (goodIn_sub (List.forall_mem_cons.mpr ⟨List.mem_cons_of_mem _ (List.mem_append_left _ (List.mem_of_getElem? (i := 0) rfl)), List.forall_mem_cons.mpr ⟨List.mem_cons_of_mem _ (List.mem_append_left _ (List.mem_of_getElem? (i := 1) rfl)), List.forall_mem_cons.mpr ⟨List.mem_cons_of_mem _ (List.mem_append_left _ (List.mem_of_getElem? (i := 2) rfl)), List.forall_mem_cons.mpr ⟨List.mem_cons_of_mem _ (List.mem_append_left _ (List.mem_of_getElem? (i := 3) rfl)), fun _ h => absurd h List.not_mem_nil⟩⟩⟩⟩) (by decide +kernel)) gw_X9_rate_X9_isCell
theorem gw_X9_rests_X9_areTwo : GoodIn W_X9_rests W_X9_areTwo := fun w h => ⟨List.mem_cons_of_mem _ (List.mem_append_right _ (List.mem_append_left _ (h))), (wI_X9_areTwo w h).2⟩
theorem gc_X9_rests_474_X9_areTwo : GoodIn W_X9_rests (wsV RX9 474 RX9 yX9_areTwo W_X9_areTwo) := goodIn_app (goodIn_sub (List.forall_mem_cons.mpr ⟨List.mem_cons_of_mem _ (List.mem_append_left _ (List.mem_of_getElem? (i := 0) rfl)), List.forall_mem_cons.mpr ⟨List.mem_cons_of_mem _ (List.mem_append_left _ (List.mem_of_getElem? (i := 1) rfl)), List.forall_mem_cons.mpr ⟨List.mem_cons_of_mem _ (List.mem_append_left _ (List.mem_of_getElem? (i := 2) rfl)), List.forall_mem_cons.mpr ⟨List.mem_cons_of_mem _ (List.mem_append_left _ (List.mem_of_getElem? (i := 3) rfl)), fun _ h => absurd h List.not_mem_nil⟩⟩⟩⟩) (by decide +kernel)) gw_X9_rests_X9_areTwo
theorem gw_X9_rests_X9_getsBy : GoodIn W_X9_rests W_X9_getsBy := fun w h => ⟨List.mem_cons_of_mem _ (List.mem_append_right _ (List.mem_append_right _ (h))), (wI_X9_getsBy w h).2⟩
theorem gc_X9_rests_477_X9_getsBy : GoodIn W_X9_rests (wsV RX9 477 RX9 yX9_getsBy W_X9_getsBy) := goodIn_app (goodIn_sub (List.forall_mem_cons.mpr ⟨List.mem_cons_of_mem _ (List.mem_append_left _ (List.mem_of_getElem? (i := 4) rfl)), List.forall_mem_cons.mpr ⟨List.mem_cons_of_mem _ (List.mem_append_left _ (List.mem_of_getElem? (i := 5) rfl)), List.forall_mem_cons.mpr ⟨List.mem_cons_of_mem _ (List.mem_append_left _ (List.mem_of_getElem? (i := 6) rfl)), List.forall_mem_cons.mpr ⟨List.mem_cons_of_mem _ (List.mem_append_left _ (List.mem_of_getElem? (i := 3) rfl)), fun _ h => absurd h List.not_mem_nil⟩⟩⟩⟩) (by decide +kernel)) gw_X9_rests_X9_getsBy
theorem gw_X9_share_X9_bit : GoodIn W_X9_share W_X9_bit := fun w h => ⟨List.mem_cons_of_mem _ (List.mem_append_right _ (List.mem_append_right _ (List.mem_append_right _ (List.mem_append_right _ (List.mem_append_right _ (List.mem_append_right _ (List.mem_append_left _ (h)))))))), (wI_X9_bit w h).2⟩
theorem gc_X9_share_288_X9_bit : GoodIn W_X9_share (va_wsS RX9 288 yX9_bit W_X9_bit) := goodIn_app (goodIn_sub (List.forall_mem_cons.mpr ⟨List.mem_cons_of_mem _ (List.mem_append_left _ (List.mem_of_getElem? (i := 14) rfl)), List.forall_mem_cons.mpr ⟨List.mem_cons_of_mem _ (List.mem_append_left _ (List.mem_of_getElem? (i := 15) rfl)), List.forall_mem_cons.mpr ⟨List.mem_cons_of_mem _ (List.mem_append_left _ (List.mem_of_getElem? (i := 3) rfl)), fun _ h => absurd h List.not_mem_nil⟩⟩⟩) (by decide +kernel)) gw_X9_share_X9_bit
theorem gw_X9_share_X9_bits : GoodIn W_X9_share W_X9_bits := fun w h => ⟨List.mem_cons_of_mem _ (List.mem_append_right _ (List.mem_append_right _ (List.mem_append_right _ (List.mem_append_right _ (List.mem_append_right _ (List.mem_append_right _ (List.mem_append_right _ (List.mem_append_left _ (h))))))))), (wI_X9_bits w h).2⟩
theorem gc_X9_share_418_X9_bits : GoodIn W_X9_share (va_wsS RX9 418 yX9_bits W_X9_bits) := goodIn_app (goodIn_sub (List.forall_mem_cons.mpr ⟨List.mem_cons_of_mem _ (List.mem_append_left _ (List.mem_of_getElem? (i := 16) rfl)), List.forall_mem_cons.mpr ⟨List.mem_cons_of_mem _ (List.mem_append_left _ (List.mem_of_getElem? (i := 17) rfl)), List.forall_mem_cons.mpr ⟨List.mem_cons_of_mem _ (List.mem_append_left _ (List.mem_of_getElem? (i := 3) rfl)), fun _ h => absurd h List.not_mem_nil⟩⟩⟩) (by decide +kernel)) gw_X9_share_X9_bits
theorem gw_X9_share_X9_factorial : GoodIn W_X9_share W_X9_factorial := fun w h => ⟨List.mem_cons_of_mem _ (List.mem_append_right _ (List.mem_append_right _ (List.mem_append_right _ (List.mem_append_right _ (List.mem_append_right _ (List.mem_append_right _ (List.mem_append_right _ (List.mem_append_right _ (List.mem_append_left _ (h)))))))))), (wI_X9_factorial w h).2⟩
theorem gc_X9_share_467_X9_factorial : GoodIn W_X9_share (va_wsS RX9 467 yX9_factorial W_X9_factorial) := goodIn_app (goodIn_sub (List.forall_mem_cons.mpr ⟨List.mem_cons_of_mem _ (List.mem_append_left _ (List.mem_of_getElem? (i := 18) rfl)), List.forall_mem_cons.mpr ⟨List.mem_cons_of_mem _ (List.mem_append_left _ (List.mem_of_getElem? (i := 19) rfl)), List.forall_mem_cons.mpr ⟨List.mem_cons_of_mem _ (List.mem_append_left _ (List.mem_of_getElem? (i := 3) rfl)), fun _ h => absurd h List.not_mem_nil⟩⟩⟩) (by decide +kernel)) gw_X9_share_X9_factorial
theorem gw_X9_share_X9_part : GoodIn W_X9_share W_X9_part := fun w h => ⟨List.mem_cons_of_mem _ (List.mem_append_right _ (List.mem_append_right _ (List.mem_append_right _ (List.mem_append_right _ (List.mem_append_right _ (List.mem_append_right _ (List.mem_append_right _ (List.mem_append_right _ (List.mem_append_right _ (h)))))))))), (wI_X9_part w h).2⟩
theorem gc_X9_share_470_X9_part : GoodIn W_X9_share (va_wsS RX9 470 yX9_part W_X9_part) := goodIn_app (goodIn_sub (List.forall_mem_cons.mpr ⟨List.mem_cons_of_mem _ (List.mem_append_left _ (List.mem_of_getElem? (i := 20) rfl)), List.forall_mem_cons.mpr ⟨List.mem_cons_of_mem _ (List.mem_append_left _ (List.mem_of_getElem? (i := 21) rfl)), List.forall_mem_cons.mpr ⟨List.mem_cons_of_mem _ (List.mem_append_left _ (List.mem_of_getElem? (i := 3) rfl)), fun _ h => absurd h List.not_mem_nil⟩⟩⟩) (by decide +kernel)) gw_X9_share_X9_part
theorem gw_X9_share_X9_in : GoodIn W_X9_share W_X9_in := fun w h => ⟨List.mem_cons_of_mem _ (List.mem_append_right _ (List.mem_append_right _ (List.mem_append_right _ (List.mem_append_left _ (h))))), (wI_X9_in w h).2⟩
theorem gc_X9_share_76_X9_in : GoodIn W_X9_share (va_wsS RX9 76 yX9_in W_X9_in) := goodIn_app (goodIn_sub (List.forall_mem_cons.mpr ⟨List.mem_cons_of_mem _ (List.mem_append_left _ (List.mem_of_getElem? (i := 4) rfl)), List.forall_mem_cons.mpr ⟨List.mem_cons_of_mem _ (List.mem_append_left _ (List.mem_of_getElem? (i := 5) rfl)), List.forall_mem_cons.mpr ⟨List.mem_cons_of_mem _ (List.mem_append_left _ (List.mem_of_getElem? (i := 3) rfl)), fun _ h => absurd h List.not_mem_nil⟩⟩⟩) (by decide +kernel)) gw_X9_share_X9_in
theorem gw_X9_share_X9_isRule : GoodIn W_X9_share W_X9_isRule := fun w h => ⟨List.mem_cons_of_mem _ (List.mem_append_right _ (List.mem_append_right _ (List.mem_append_left _ (h)))), (wI_X9_isRule w h).2⟩
theorem gc_X9_share_256_X9_isRule : GoodIn W_X9_share (wsV RX9 256 RX9 yX9_isRule W_X9_isRule) := goodIn_app (goodIn_sub (List.forall_mem_cons.mpr ⟨List.mem_cons_of_mem _ (List.mem_append_left _ (List.mem_of_getElem? (i := 0) rfl)), List.forall_mem_cons.mpr ⟨List.mem_cons_of_mem _ (List.mem_append_left _ (List.mem_of_getElem? (i := 1) rfl)), List.forall_mem_cons.mpr ⟨List.mem_cons_of_mem _ (List.mem_append_left _ (List.mem_of_getElem? (i := 2) rfl)), List.forall_mem_cons.mpr ⟨List.mem_cons_of_mem _ (List.mem_append_left _ (List.mem_of_getElem? (i := 3) rfl)), fun _ h => absurd h List.not_mem_nil⟩⟩⟩⟩) (by decide +kernel)) gw_X9_share_X9_isRule
theorem gw_X9_share_X9_worthOf : GoodIn W_X9_share W_X9_worthOf := fun w h => ⟨List.mem_cons_of_mem _ (List.mem_append_right _ (List.mem_append_right _ (List.mem_append_right _ (List.mem_append_right _ (List.mem_append_right _ (List.mem_append_left _ (h))))))), (wI_X9_worthOf w h).2⟩
theorem gc_X9_share_455_X9_worthOf : GoodIn W_X9_share (wsV RX9 455 RX9 yX9_worthOf W_X9_worthOf) := goodIn_app (goodIn_sub (List.forall_mem_cons.mpr ⟨List.mem_cons_of_mem _ (List.mem_append_left _ (List.mem_of_getElem? (i := 11) rfl)), List.forall_mem_cons.mpr ⟨List.mem_cons_of_mem _ (List.mem_append_left _ (List.mem_of_getElem? (i := 12) rfl)), List.forall_mem_cons.mpr ⟨List.mem_cons_of_mem _ (List.mem_append_left _ (List.mem_of_getElem? (i := 13) rfl)), List.forall_mem_cons.mpr ⟨List.mem_cons_of_mem _ (List.mem_append_left _ (List.mem_of_getElem? (i := 3) rfl)), fun _ h => absurd h List.not_mem_nil⟩⟩⟩⟩) (by decide +kernel)) gw_X9_share_X9_worthOf
theorem gw_X9_share_X9_rules : GoodIn W_X9_share W_X9_rules := fun w h => ⟨List.mem_cons_of_mem _ (List.mem_append_right _ (List.mem_append_right _ (List.mem_append_right _ (List.mem_append_right _ (List.mem_append_left _ (h)))))), (wI_X9_rules w h).2⟩
theorem gc_X9_share_80_X9_rules : GoodIn W_X9_share (wsV RX9 80 RX9 yX9_rules W_X9_rules) := goodIn_app (goodIn_sub (List.forall_mem_cons.mpr ⟨List.mem_cons_of_mem _ (List.mem_append_left _ (List.mem_of_getElem? (i := 7) rfl)), List.forall_mem_cons.mpr ⟨List.mem_cons_of_mem _ (List.mem_append_left _ (List.mem_of_getElem? (i := 8) rfl)), List.forall_mem_cons.mpr ⟨List.mem_cons_of_mem _ (List.mem_append_left _ (List.mem_of_getElem? (i := 9) rfl)), List.forall_mem_cons.mpr ⟨List.mem_cons_of_mem _ (List.mem_append_left _ (List.mem_of_getElem? (i := 3) rfl)), fun _ h => absurd h List.not_mem_nil⟩⟩⟩⟩) (by decide +kernel)) gw_X9_share_X9_rules
theorem gw_X9_undo_X9_isBase : GoodIn W_X9_undo W_X9_isBase := fun w h => ⟨List.mem_cons_of_mem _ (List.mem_append_right _ (List.mem_append_right _ (h))), (wI_X9_isBase w h).2⟩
theorem gc_X9_undo_92_X9_isBase : GoodIn W_X9_undo (wsV RX9 92 RX9 yX9_isBase W_X9_isBase) := goodIn_app (goodIn_sub (List.forall_mem_cons.mpr ⟨List.mem_cons_of_mem _ (List.mem_append_left _ (List.mem_of_getElem? (i := 0) rfl)), List.forall_mem_cons.mpr ⟨List.mem_cons_of_mem _ (List.mem_append_left _ (List.mem_of_getElem? (i := 1) rfl)), List.forall_mem_cons.mpr ⟨List.mem_cons_of_mem _ (List.mem_append_left _ (List.mem_of_getElem? (i := 2) rfl)), List.forall_mem_cons.mpr ⟨List.mem_cons_of_mem _ (List.mem_append_left _ (List.mem_of_getElem? (i := 3) rfl)), fun _ h => absurd h List.not_mem_nil⟩⟩⟩⟩) (by decide +kernel)) gw_X9_undo_X9_isBase
