theorem dX8_asked_0 : decode cX8_asked 0 = .ok (.aload_n 0, 1) := by decide +kernel
theorem dX8_asked_1 : decode cX8_asked 1 = .ok (.iload_n 1, 1) := by decide +kernel
theorem dX8_asked_2 : decode cX8_asked 2 = .ok (.invokevirtual 124, 3) := by decide +kernel
theorem dX8_asked_5 : decode cX8_asked 5 = .ok (.ifCond .ne 11, 3) := by decide +kernel
theorem dX8_asked_8 : decode cX8_asked 8 = .ok (.aload_n 0, 1) := by decide +kernel
theorem dX8_asked_9 : decode cX8_asked 9 = .ok (.iload_n 2, 1) := by decide +kernel
theorem dX8_asked_10 : decode cX8_asked 10 = .ok (.invokevirtual 196, 3) := by decide +kernel
theorem dX8_asked_13 : decode cX8_asked 13 = .ok (.ifCond .eq 6, 3) := by decide +kernel
theorem dX8_asked_16 : decode cX8_asked 16 = .ok (.bipush (-2), 2) := by decide +kernel
theorem dX8_asked_18 : decode cX8_asked 18 = .ok (.ireturn, 1) := by decide +kernel
theorem dX8_asked_19 : decode cX8_asked 19 = .ok (.aload_n 0, 1) := by decide +kernel
theorem dX8_asked_20 : decode cX8_asked 20 = .ok (.getfield 47, 3) := by decide +kernel
theorem dX8_asked_23 : decode cX8_asked 23 = .ok (.iload_n 1, 1) := by decide +kernel
theorem dX8_asked_24 : decode cX8_asked 24 = .ok (.invokevirtual 141, 3) := by decide +kernel
theorem dX8_asked_27 : decode cX8_asked 27 = .ok (.ifCond .ne 5, 3) := by decide +kernel
theorem dX8_asked_30 : decode cX8_asked 30 = .ok (.iconst 0, 1) := by decide +kernel
theorem dX8_asked_31 : decode cX8_asked 31 = .ok (.ireturn, 1) := by decide +kernel
theorem dX8_asked_32 : decode cX8_asked 32 = .ok (.aload_n 0, 1) := by decide +kernel
theorem dX8_asked_33 : decode cX8_asked 33 = .ok (.getfield 47, 3) := by decide +kernel
theorem dX8_asked_36 : decode cX8_asked 36 = .ok (.iload_n 1, 1) := by decide +kernel
theorem dX8_asked_37 : decode cX8_asked 37 = .ok (.iload_n 2, 1) := by decide +kernel
theorem dX8_asked_38 : decode cX8_asked 38 = .ok (.iconst 0, 1) := by decide +kernel
theorem dX8_asked_39 : decode cX8_asked 39 = .ok (.invokevirtual 199, 3) := by decide +kernel
theorem dX8_asked_42 : decode cX8_asked 42 = .ok (.aload_n 0, 1) := by decide +kernel
theorem dX8_asked_43 : decode cX8_asked 43 = .ok (.getfield 47, 3) := by decide +kernel
theorem dX8_asked_46 : decode cX8_asked 46 = .ok (.iload_n 1, 1) := by decide +kernel
theorem dX8_asked_47 : decode cX8_asked 47 = .ok (.iload_n 2, 1) := by decide +kernel
theorem dX8_asked_48 : decode cX8_asked 48 = .ok (.aload_n 0, 1) := by decide +kernel
theorem dX8_asked_49 : decode cX8_asked 49 = .ok (.getfield 23, 3) := by decide +kernel
theorem dX8_asked_52 : decode cX8_asked 52 = .ok (.getfield 138, 3) := by decide +kernel
theorem dX8_asked_55 : decode cX8_asked 55 = .ok (.invokevirtual 199, 3) := by decide +kernel
theorem dX8_asked_58 : decode cX8_asked 58 = .ok (.ldc2_w 209, 3) := by decide +kernel
theorem dX8_asked_61 : decode cX8_asked 61 = .ok (.lxor, 1) := by decide +kernel
theorem dX8_asked_62 : decode cX8_asked 62 = .ok (.land, 1) := by decide +kernel
theorem dX8_asked_63 : decode cX8_asked 63 = .ok (.lstore_n 3, 1) := by decide +kernel
theorem dX8_asked_64 : decode cX8_asked 64 = .ok (.lload_n 3, 1) := by decide +kernel
theorem dX8_asked_65 : decode cX8_asked 65 = .ok (.invokestatic 148, 3) := by decide +kernel
theorem dX8_asked_68 : decode cX8_asked 68 = .ok (.istore 5, 2) := by decide +kernel
theorem dX8_asked_70 : decode cX8_asked 70 = .ok (.iload 5, 2) := by decide +kernel
theorem dX8_asked_72 : decode cX8_asked 72 = .ok (.iload 5, 2) := by decide +kernel
theorem dX8_asked_74 : decode cX8_asked 74 = .ok (.iconst 1, 1) := by decide +kernel
theorem dX8_asked_75 : decode cX8_asked 75 = .ok (.iadd, 1) := by decide +kernel
theorem dX8_asked_76 : decode cX8_asked 76 = .ok (.imul, 1) := by decide +kernel
theorem dX8_asked_77 : decode cX8_asked 77 = .ok (.iconst 2, 1) := by decide +kernel
theorem dX8_asked_78 : decode cX8_asked 78 = .ok (.idiv, 1) := by decide +kernel
theorem dX8_asked_79 : decode cX8_asked 79 = .ok (.ireturn, 1) := by decide +kernel
theorem dX8_breaks_0 : decode cX8_breaks 0 = .ok (.aload_n 0, 1) := by decide +kernel
theorem dX8_breaks_1 : decode cX8_breaks 1 = .ok (.iload_n 1, 1) := by decide +kernel
theorem dX8_breaks_2 : decode cX8_breaks 2 = .ok (.invokevirtual 124, 3) := by decide +kernel
theorem dX8_breaks_5 : decode cX8_breaks 5 = .ok (.ifCond .eq 8, 3) := by decide +kernel
theorem dX8_breaks_8 : decode cX8_breaks 8 = .ok (.bipush (-2), 2) := by decide +kernel
theorem dX8_breaks_10 : decode cX8_breaks 10 = .ok (.goto 11, 3) := by decide +kernel
theorem dX8_breaks_13 : decode cX8_breaks 13 = .ok (.aload_n 0, 1) := by decide +kernel
theorem dX8_breaks_14 : decode cX8_breaks 14 = .ok (.getfield 47, 3) := by decide +kernel
theorem dX8_breaks_17 : decode cX8_breaks 17 = .ok (.iload_n 1, 1) := by decide +kernel
theorem dX8_breaks_18 : decode cX8_breaks 18 = .ok (.invokevirtual 154, 3) := by decide +kernel
theorem dX8_breaks_21 : decode cX8_breaks 21 = .ok (.ireturn, 1) := by decide +kernel
theorem dX8_cell_0 : decode cX8_cell 0 = .ok (.aload_n 0, 1) := by decide +kernel
theorem dX8_cell_1 : decode cX8_cell 1 = .ok (.iload_n 1, 1) := by decide +kernel
theorem dX8_cell_2 : decode cX8_cell 2 = .ok (.invokevirtual 100, 3) := by decide +kernel
theorem dX8_cell_5 : decode cX8_cell 5 = .ok (.ifCond .eq 8, 3) := by decide +kernel
theorem dX8_cell_8 : decode cX8_cell 8 = .ok (.bipush (-2), 2) := by decide +kernel
theorem dX8_cell_10 : decode cX8_cell 10 = .ok (.goto 12, 3) := by decide +kernel
theorem dX8_cell_13 : decode cX8_cell 13 = .ok (.aload_n 0, 1) := by decide +kernel
theorem dX8_cell_14 : decode cX8_cell 14 = .ok (.getfield 23, 3) := by decide +kernel
theorem dX8_cell_17 : decode cX8_cell 17 = .ok (.getfield 104, 3) := by decide +kernel
theorem dX8_cell_20 : decode cX8_cell 20 = .ok (.iload_n 1, 1) := by decide +kernel
theorem dX8_cell_21 : decode cX8_cell 21 = .ok (.iaload, 1) := by decide +kernel
theorem dX8_cell_22 : decode cX8_cell 22 = .ok (.ireturn, 1) := by decide +kernel
theorem dX8_clashes_0 : decode cX8_clashes 0 = .ok (.aload_n 0, 1) := by decide +kernel
theorem dX8_clashes_1 : decode cX8_clashes 1 = .ok (.iload_n 1, 1) := by decide +kernel
theorem dX8_clashes_2 : decode cX8_clashes 2 = .ok (.invokevirtual 114, 3) := by decide +kernel
theorem dX8_clashes_5 : decode cX8_clashes 5 = .ok (.ifCond .ne 11, 3) := by decide +kernel
theorem dX8_clashes_8 : decode cX8_clashes 8 = .ok (.aload_n 0, 1) := by decide +kernel
theorem dX8_clashes_9 : decode cX8_clashes 9 = .ok (.iload_n 2, 1) := by decide +kernel
theorem dX8_clashes_10 : decode cX8_clashes 10 = .ok (.invokevirtual 114, 3) := by decide +kernel
theorem dX8_clashes_13 : decode cX8_clashes 13 = .ok (.ifCond .eq 8, 3) := by decide +kernel
theorem dX8_clashes_16 : decode cX8_clashes 16 = .ok (.bipush (-2), 2) := by decide +kernel
theorem dX8_clashes_18 : decode cX8_clashes 18 = .ok (.goto 12, 3) := by decide +kernel
theorem dX8_clashes_21 : decode cX8_clashes 21 = .ok (.aload_n 0, 1) := by decide +kernel
theorem dX8_clashes_22 : decode cX8_clashes 22 = .ok (.getfield 47, 3) := by decide +kernel
theorem dX8_clashes_25 : decode cX8_clashes 25 = .ok (.iload_n 1, 1) := by decide +kernel
theorem dX8_clashes_26 : decode cX8_clashes 26 = .ok (.iload_n 2, 1) := by decide +kernel
theorem dX8_clashes_27 : decode cX8_clashes 27 = .ok (.invokevirtual 193, 3) := by decide +kernel
theorem dX8_clashes_30 : decode cX8_clashes 30 = .ok (.ireturn, 1) := by decide +kernel
theorem dX8_commute_0 : decode cX8_commute 0 = .ok (.aload_n 0, 1) := by decide +kernel
theorem dX8_commute_1 : decode cX8_commute 1 = .ok (.iload_n 1, 1) := by decide +kernel
theorem dX8_commute_2 : decode cX8_commute 2 = .ok (.invokevirtual 114, 3) := by decide +kernel
theorem dX8_commute_5 : decode cX8_commute 5 = .ok (.ifCond .ne 11, 3) := by decide +kernel
theorem dX8_commute_8 : decode cX8_commute 8 = .ok (.aload_n 0, 1) := by decide +kernel
theorem dX8_commute_9 : decode cX8_commute 9 = .ok (.iload_n 2, 1) := by decide +kernel
theorem dX8_commute_10 : decode cX8_commute 10 = .ok (.invokevirtual 114, 3) := by decide +kernel
theorem dX8_commute_13 : decode cX8_commute 13 = .ok (.ifCond .eq 6, 3) := by decide +kernel
theorem dX8_commute_16 : decode cX8_commute 16 = .ok (.bipush (-2), 2) := by decide +kernel
theorem dX8_commute_18 : decode cX8_commute 18 = .ok (.ireturn, 1) := by decide +kernel
theorem dX8_commute_19 : decode cX8_commute 19 = .ok (.aload_n 0, 1) := by decide +kernel
theorem dX8_commute_20 : decode cX8_commute 20 = .ok (.getfield 47, 3) := by decide +kernel
theorem dX8_commute_23 : decode cX8_commute 23 = .ok (.iload_n 1, 1) := by decide +kernel
theorem dX8_commute_24 : decode cX8_commute 24 = .ok (.iload_n 2, 1) := by decide +kernel
theorem dX8_commute_25 : decode cX8_commute 25 = .ok (.invokevirtual 180, 3) := by decide +kernel
theorem dX8_commute_28 : decode cX8_commute 28 = .ok (.ifCond .eq 7, 3) := by decide +kernel
theorem dX8_commute_31 : decode cX8_commute 31 = .ok (.iconst 1, 1) := by decide +kernel
theorem dX8_commute_32 : decode cX8_commute 32 = .ok (.goto 4, 3) := by decide +kernel
theorem dX8_commute_35 : decode cX8_commute 35 = .ok (.iconst 0, 1) := by decide +kernel
theorem dX8_commute_36 : decode cX8_commute 36 = .ok (.ireturn, 1) := by decide +kernel
theorem dX8_dead_0 : decode cX8_dead 0 = .ok (.aload_n 0, 1) := by decide +kernel
theorem dX8_dead_1 : decode cX8_dead 1 = .ok (.invokevirtual 120, 3) := by decide +kernel
theorem dX8_dead_4 : decode cX8_dead 4 = .ok (.ifCond .ne 6, 3) := by decide +kernel
theorem dX8_dead_7 : decode cX8_dead 7 = .ok (.bipush (-2), 2) := by decide +kernel
theorem dX8_dead_9 : decode cX8_dead 9 = .ok (.ireturn, 1) := by decide +kernel
theorem dX8_dead_10 : decode cX8_dead 10 = .ok (.iconst 0, 1) := by decide +kernel
theorem dX8_dead_11 : decode cX8_dead 11 = .ok (.istore_n 1, 1) := by decide +kernel
theorem dX8_dead_12 : decode cX8_dead 12 = .ok (.iconst 0, 1) := by decide +kernel
theorem dX8_dead_13 : decode cX8_dead 13 = .ok (.istore_n 2, 1) := by decide +kernel
theorem dX8_dead_14 : decode cX8_dead 14 = .ok (.iload_n 2, 1) := by decide +kernel
theorem dX8_dead_15 : decode cX8_dead 15 = .ok (.aload_n 0, 1) := by decide +kernel
theorem dX8_dead_16 : decode cX8_dead 16 = .ok (.getfield 38, 3) := by decide +kernel
theorem dX8_dead_19 : decode cX8_dead 19 = .ok (.getfield 123, 3) := by decide +kernel
theorem dX8_dead_22 : decode cX8_dead 22 = .ok (.if_icmp .ge 34, 3) := by decide +kernel
theorem dX8_dead_25 : decode cX8_dead 25 = .ok (.aload_n 0, 1) := by decide +kernel
theorem dX8_dead_26 : decode cX8_dead 26 = .ok (.getfield 47, 3) := by decide +kernel
theorem dX8_dead_29 : decode cX8_dead 29 = .ok (.iload_n 2, 1) := by decide +kernel
theorem dX8_dead_30 : decode cX8_dead 30 = .ok (.invokevirtual 141, 3) := by decide +kernel
theorem dX8_dead_33 : decode cX8_dead 33 = .ok (.ifCond .eq 17, 3) := by decide +kernel
theorem dX8_dead_36 : decode cX8_dead 36 = .ok (.aload_n 0, 1) := by decide +kernel
theorem dX8_dead_37 : decode cX8_dead 37 = .ok (.getfield 47, 3) := by decide +kernel
theorem dX8_dead_40 : decode cX8_dead 40 = .ok (.iload_n 2, 1) := by decide +kernel
theorem dX8_dead_41 : decode cX8_dead 41 = .ok (.invokevirtual 186, 3) := by decide +kernel
theorem dX8_dead_44 : decode cX8_dead 44 = .ok (.ifCond .ne 6, 3) := by decide +kernel
theorem dX8_dead_47 : decode cX8_dead 47 = .ok (.iinc 1 1, 3) := by decide +kernel
theorem dX8_dead_50 : decode cX8_dead 50 = .ok (.iinc 2 1, 3) := by decide +kernel
theorem dX8_dead_53 : decode cX8_dead 53 = .ok (.goto (-39), 3) := by decide +kernel
theorem dX8_dead_56 : decode cX8_dead 56 = .ok (.iload_n 1, 1) := by decide +kernel
theorem dX8_dead_57 : decode cX8_dead 57 = .ok (.ireturn, 1) := by decide +kernel
theorem dX8_does_0 : decode cX8_does 0 = .ok (.aload_n 0, 1) := by decide +kernel
theorem dX8_does_1 : decode cX8_does 1 = .ok (.iload_n 1, 1) := by decide +kernel
theorem dX8_does_2 : decode cX8_does 2 = .ok (.invokevirtual 114, 3) := by decide +kernel
theorem dX8_does_5 : decode cX8_does 5 = .ok (.ifCond .ne 11, 3) := by decide +kernel
theorem dX8_does_8 : decode cX8_does 8 = .ok (.aload_n 0, 1) := by decide +kernel
theorem dX8_does_9 : decode cX8_does 9 = .ok (.iload_n 2, 1) := by decide +kernel
theorem dX8_does_10 : decode cX8_does 10 = .ok (.invokevirtual 124, 3) := by decide +kernel
theorem dX8_does_13 : decode cX8_does 13 = .ok (.ifCond .eq 8, 3) := by decide +kernel
theorem dX8_does_16 : decode cX8_does 16 = .ok (.bipush (-2), 2) := by decide +kernel
theorem dX8_does_18 : decode cX8_does 18 = .ok (.goto 12, 3) := by decide +kernel
theorem dX8_does_21 : decode cX8_does 21 = .ok (.aload_n 0, 1) := by decide +kernel
theorem dX8_does_22 : decode cX8_does 22 = .ok (.getfield 47, 3) := by decide +kernel
theorem dX8_does_25 : decode cX8_does 25 = .ok (.iload_n 1, 1) := by decide +kernel
theorem dX8_does_26 : decode cX8_does 26 = .ok (.iload_n 2, 1) := by decide +kernel
theorem dX8_does_27 : decode cX8_does 27 = .ok (.invokevirtual 174, 3) := by decide +kernel
theorem dX8_does_30 : decode cX8_does 30 = .ok (.ireturn, 1) := by decide +kernel
theorem dX8_dropped_0 : decode cX8_dropped 0 = .ok (.aload_n 0, 1) := by decide +kernel
theorem dX8_dropped_1 : decode cX8_dropped 1 = .ok (.invokevirtual 120, 3) := by decide +kernel
theorem dX8_dropped_4 : decode cX8_dropped 4 = .ok (.ifCond .eq 13, 3) := by decide +kernel
theorem dX8_dropped_7 : decode cX8_dropped 7 = .ok (.aload_n 0, 1) := by decide +kernel
theorem dX8_dropped_8 : decode cX8_dropped 8 = .ok (.getfield 23, 3) := by decide +kernel
theorem dX8_dropped_11 : decode cX8_dropped 11 = .ok (.getfield 135, 3) := by decide +kernel
theorem dX8_dropped_14 : decode cX8_dropped 14 = .ok (.goto 5, 3) := by decide +kernel
theorem dX8_dropped_17 : decode cX8_dropped 17 = .ok (.bipush (-2), 2) := by decide +kernel
theorem dX8_dropped_19 : decode cX8_dropped 19 = .ok (.ireturn, 1) := by decide +kernel
theorem dX8_end_0 : decode cX8_end 0 = .ok (.iload_n 1, 1) := by decide +kernel
theorem dX8_end_1 : decode cX8_end 1 = .ok (.ifCond .lt 14, 3) := by decide +kernel
theorem dX8_end_4 : decode cX8_end 4 = .ok (.iload_n 1, 1) := by decide +kernel
theorem dX8_end_5 : decode cX8_end 5 = .ok (.aload_n 0, 1) := by decide +kernel
theorem dX8_end_6 : decode cX8_end 6 = .ok (.getfield 10, 3) := by decide +kernel
theorem dX8_end_9 : decode cX8_end 9 = .ok (.getfield 75, 3) := by decide +kernel
theorem dX8_end_12 : decode cX8_end 12 = .ok (.if_icmp .le 5, 3) := by decide +kernel
theorem dX8_end_15 : decode cX8_end 15 = .ok (.iconst (-1), 1) := by decide +kernel
theorem dX8_end_16 : decode cX8_end 16 = .ok (.ireturn, 1) := by decide +kernel
theorem dX8_end_17 : decode cX8_end 17 = .ok (.aload_n 0, 1) := by decide +kernel
theorem dX8_end_18 : decode cX8_end 18 = .ok (.getfield 10, 3) := by decide +kernel
theorem dX8_end_21 : decode cX8_end 21 = .ok (.iload_n 1, 1) := by decide +kernel
theorem dX8_end_22 : decode cX8_end 22 = .ok (.putfield 75, 3) := by decide +kernel
theorem dX8_end_25 : decode cX8_end 25 = .ok (.iload_n 1, 1) := by decide +kernel
theorem dX8_end_26 : decode cX8_end 26 = .ok (.ireturn, 1) := by decide +kernel
theorem dX8_even_0 : decode cX8_even 0 = .ok (.aload_n 0, 1) := by decide +kernel
theorem dX8_even_1 : decode cX8_even 1 = .ok (.iload_n 1, 1) := by decide +kernel
theorem dX8_even_2 : decode cX8_even 2 = .ok (.invokevirtual 124, 3) := by decide +kernel
theorem dX8_even_5 : decode cX8_even 5 = .ok (.ifCond .ne 19, 3) := by decide +kernel
theorem dX8_even_8 : decode cX8_even 8 = .ok (.aload_n 0, 1) := by decide +kernel
theorem dX8_even_9 : decode cX8_even 9 = .ok (.iload_n 2, 1) := by decide +kernel
theorem dX8_even_10 : decode cX8_even 10 = .ok (.invokevirtual 124, 3) := by decide +kernel
theorem dX8_even_13 : decode cX8_even 13 = .ok (.ifCond .ne 11, 3) := by decide +kernel
theorem dX8_even_16 : decode cX8_even 16 = .ok (.aload_n 0, 1) := by decide +kernel
theorem dX8_even_17 : decode cX8_even 17 = .ok (.iload_n 3, 1) := by decide +kernel
theorem dX8_even_18 : decode cX8_even 18 = .ok (.invokevirtual 124, 3) := by decide +kernel
theorem dX8_even_21 : decode cX8_even 21 = .ok (.ifCond .eq 6, 3) := by decide +kernel
theorem dX8_even_24 : decode cX8_even 24 = .ok (.bipush (-2), 2) := by decide +kernel
theorem dX8_even_26 : decode cX8_even 26 = .ok (.ireturn, 1) := by decide +kernel
theorem dX8_even_27 : decode cX8_even 27 = .ok (.aload_n 0, 1) := by decide +kernel
theorem dX8_even_28 : decode cX8_even 28 = .ok (.getfield 47, 3) := by decide +kernel
theorem dX8_even_31 : decode cX8_even 31 = .ok (.iload_n 1, 1) := by decide +kernel
theorem dX8_even_32 : decode cX8_even 32 = .ok (.iload_n 2, 1) := by decide +kernel
theorem dX8_even_33 : decode cX8_even 33 = .ok (.iload_n 3, 1) := by decide +kernel
theorem dX8_even_34 : decode cX8_even 34 = .ok (.invokevirtual 189, 3) := by decide +kernel
theorem dX8_even_37 : decode cX8_even 37 = .ok (.aload_n 0, 1) := by decide +kernel
theorem dX8_even_38 : decode cX8_even 38 = .ok (.getfield 47, 3) := by decide +kernel
theorem dX8_even_41 : decode cX8_even 41 = .ok (.iload_n 1, 1) := by decide +kernel
theorem dX8_even_42 : decode cX8_even 42 = .ok (.iload_n 3, 1) := by decide +kernel
theorem dX8_even_43 : decode cX8_even 43 = .ok (.iload_n 2, 1) := by decide +kernel
theorem dX8_even_44 : decode cX8_even 44 = .ok (.invokevirtual 189, 3) := by decide +kernel
theorem dX8_even_47 : decode cX8_even 47 = .ok (.if_icmp .ne 7, 3) := by decide +kernel
theorem dX8_even_50 : decode cX8_even 50 = .ok (.iconst 1, 1) := by decide +kernel
theorem dX8_even_51 : decode cX8_even 51 = .ok (.goto 4, 3) := by decide +kernel
theorem dX8_even_54 : decode cX8_even 54 = .ok (.iconst 0, 1) := by decide +kernel
theorem dX8_even_55 : decode cX8_even 55 = .ok (.ireturn, 1) := by decide +kernel
theorem dX8_far_0 : decode cX8_far 0 = .ok (.aload_n 0, 1) := by decide +kernel
theorem dX8_far_1 : decode cX8_far 1 = .ok (.iload_n 1, 1) := by decide +kernel
theorem dX8_far_2 : decode cX8_far 2 = .ok (.invokevirtual 124, 3) := by decide +kernel
theorem dX8_far_5 : decode cX8_far 5 = .ok (.ifCond .ne 11, 3) := by decide +kernel
theorem dX8_far_8 : decode cX8_far 8 = .ok (.aload_n 0, 1) := by decide +kernel
theorem dX8_far_9 : decode cX8_far 9 = .ok (.iload_n 2, 1) := by decide +kernel
theorem dX8_far_10 : decode cX8_far 10 = .ok (.invokevirtual 124, 3) := by decide +kernel
theorem dX8_far_13 : decode cX8_far 13 = .ok (.ifCond .eq 8, 3) := by decide +kernel
theorem dX8_far_16 : decode cX8_far 16 = .ok (.bipush (-2), 2) := by decide +kernel
theorem dX8_far_18 : decode cX8_far 18 = .ok (.goto 12, 3) := by decide +kernel
theorem dX8_far_21 : decode cX8_far 21 = .ok (.aload_n 0, 1) := by decide +kernel
theorem dX8_far_22 : decode cX8_far 22 = .ok (.getfield 47, 3) := by decide +kernel
theorem dX8_far_25 : decode cX8_far 25 = .ok (.iload_n 1, 1) := by decide +kernel
theorem dX8_far_26 : decode cX8_far 26 = .ok (.iload_n 2, 1) := by decide +kernel
theorem dX8_far_27 : decode cX8_far 27 = .ok (.invokevirtual 203, 3) := by decide +kernel
theorem dX8_far_30 : decode cX8_far 30 = .ok (.ireturn, 1) := by decide +kernel
theorem dX8_fault_0 : decode cX8_fault 0 = .ok (.iload_n 1, 1) := by decide +kernel
theorem dX8_fault_1 : decode cX8_fault 1 = .ok (.lookupswitch 43 #[(0, 27), (1, 35)], 27) := by decide +kernel
theorem dX8_fault_28 : decode cX8_fault 28 = .ok (.aload_n 0, 1) := by decide +kernel
theorem dX8_fault_29 : decode cX8_fault 29 = .ok (.getfield 31, 3) := by decide +kernel
theorem dX8_fault_32 : decode cX8_fault 32 = .ok (.getfield 94, 3) := by decide +kernel
theorem dX8_fault_35 : decode cX8_fault 35 = .ok (.ireturn, 1) := by decide +kernel
theorem dX8_fault_36 : decode cX8_fault 36 = .ok (.aload_n 0, 1) := by decide +kernel
theorem dX8_fault_37 : decode cX8_fault 37 = .ok (.getfield 31, 3) := by decide +kernel
theorem dX8_fault_40 : decode cX8_fault 40 = .ok (.getfield 97, 3) := by decide +kernel
theorem dX8_fault_43 : decode cX8_fault 43 = .ok (.ireturn, 1) := by decide +kernel
theorem dX8_fault_44 : decode cX8_fault 44 = .ok (.iconst (-1), 1) := by decide +kernel
theorem dX8_fault_45 : decode cX8_fault 45 = .ok (.ireturn, 1) := by decide +kernel
theorem dX8_feed_0 : decode cX8_feed 0 = .ok (.aload_n 0, 1) := by decide +kernel
theorem dX8_feed_1 : decode cX8_feed 1 = .ok (.getfield 10, 3) := by decide +kernel
theorem dX8_feed_4 : decode cX8_feed 4 = .ok (.getfield 75, 3) := by decide +kernel
theorem dX8_feed_7 : decode cX8_feed 7 = .ok (.bipush 20, 2) := by decide +kernel
theorem dX8_feed_9 : decode cX8_feed 9 = .ok (.iadd, 1) := by decide +kernel
theorem dX8_feed_10 : decode cX8_feed 10 = .ok (.sipush 400, 3) := by decide +kernel
theorem dX8_feed_13 : decode cX8_feed 13 = .ok (.if_icmp .le 5, 3) := by decide +kernel
theorem dX8_feed_16 : decode cX8_feed 16 = .ok (.iconst (-1), 1) := by decide +kernel
theorem dX8_feed_17 : decode cX8_feed 17 = .ok (.ireturn, 1) := by decide +kernel
theorem dX8_feed_18 : decode cX8_feed 18 = .ok (.aload_n 0, 1) := by decide +kernel
theorem dX8_feed_19 : decode cX8_feed 19 = .ok (.getfield 10, 3) := by decide +kernel
theorem dX8_feed_22 : decode cX8_feed 22 = .ok (.iload_n 1, 1) := by decide +kernel
theorem dX8_feed_23 : decode cX8_feed 23 = .ok (.invokevirtual 79, 3) := by decide +kernel
theorem dX8_feed_26 : decode cX8_feed 26 = .ok (.aload_n 0, 1) := by decide +kernel
theorem dX8_feed_27 : decode cX8_feed 27 = .ok (.getfield 10, 3) := by decide +kernel
theorem dX8_feed_30 : decode cX8_feed 30 = .ok (.iload_n 2, 1) := by decide +kernel
theorem dX8_feed_31 : decode cX8_feed 31 = .ok (.invokevirtual 79, 3) := by decide +kernel
theorem dX8_feed_34 : decode cX8_feed 34 = .ok (.aload_n 0, 1) := by decide +kernel
theorem dX8_feed_35 : decode cX8_feed 35 = .ok (.getfield 10, 3) := by decide +kernel
theorem dX8_feed_38 : decode cX8_feed 38 = .ok (.iload_n 3, 1) := by decide +kernel
theorem dX8_feed_39 : decode cX8_feed 39 = .ok (.invokevirtual 79, 3) := by decide +kernel
theorem dX8_feed_42 : decode cX8_feed 42 = .ok (.aload_n 0, 1) := by decide +kernel
theorem dX8_feed_43 : decode cX8_feed 43 = .ok (.getfield 10, 3) := by decide +kernel
theorem dX8_feed_46 : decode cX8_feed 46 = .ok (.iload 4, 2) := by decide +kernel
theorem dX8_feed_48 : decode cX8_feed 48 = .ok (.invokevirtual 79, 3) := by decide +kernel
theorem dX8_feed_51 : decode cX8_feed 51 = .ok (.aload_n 0, 1) := by decide +kernel
theorem dX8_feed_52 : decode cX8_feed 52 = .ok (.getfield 10, 3) := by decide +kernel
theorem dX8_feed_55 : decode cX8_feed 55 = .ok (.iload 5, 2) := by decide +kernel
theorem dX8_feed_57 : decode cX8_feed 57 = .ok (.invokevirtual 79, 3) := by decide +kernel
theorem dX8_feed_60 : decode cX8_feed 60 = .ok (.aload_n 0, 1) := by decide +kernel
theorem dX8_feed_61 : decode cX8_feed 61 = .ok (.getfield 10, 3) := by decide +kernel
theorem dX8_feed_64 : decode cX8_feed 64 = .ok (.getfield 75, 3) := by decide +kernel
theorem dX8_feed_67 : decode cX8_feed 67 = .ok (.ireturn, 1) := by decide +kernel
theorem dX8_freely_0 : decode cX8_freely 0 = .ok (.aload_n 0, 1) := by decide +kernel
theorem dX8_freely_1 : decode cX8_freely 1 = .ok (.iload_n 1, 1) := by decide +kernel
theorem dX8_freely_2 : decode cX8_freely 2 = .ok (.invokevirtual 124, 3) := by decide +kernel
theorem dX8_freely_5 : decode cX8_freely 5 = .ok (.ifCond .ne 11, 3) := by decide +kernel
theorem dX8_freely_8 : decode cX8_freely 8 = .ok (.aload_n 0, 1) := by decide +kernel
theorem dX8_freely_9 : decode cX8_freely 9 = .ok (.iload_n 2, 1) := by decide +kernel
theorem dX8_freely_10 : decode cX8_freely 10 = .ok (.invokevirtual 196, 3) := by decide +kernel
theorem dX8_freely_13 : decode cX8_freely 13 = .ok (.ifCond .eq 6, 3) := by decide +kernel
theorem dX8_freely_16 : decode cX8_freely 16 = .ok (.bipush (-2), 2) := by decide +kernel
theorem dX8_freely_18 : decode cX8_freely 18 = .ok (.ireturn, 1) := by decide +kernel
theorem dX8_freely_19 : decode cX8_freely 19 = .ok (.aload_n 0, 1) := by decide +kernel
theorem dX8_freely_20 : decode cX8_freely 20 = .ok (.getfield 47, 3) := by decide +kernel
theorem dX8_freely_23 : decode cX8_freely 23 = .ok (.iload_n 1, 1) := by decide +kernel
theorem dX8_freely_24 : decode cX8_freely 24 = .ok (.invokevirtual 141, 3) := by decide +kernel
theorem dX8_freely_27 : decode cX8_freely 27 = .ok (.ifCond .eq 25, 3) := by decide +kernel
theorem dX8_freely_30 : decode cX8_freely 30 = .ok (.aload_n 0, 1) := by decide +kernel
theorem dX8_freely_31 : decode cX8_freely 31 = .ok (.getfield 47, 3) := by decide +kernel
theorem dX8_freely_34 : decode cX8_freely 34 = .ok (.iload_n 1, 1) := by decide +kernel
theorem dX8_freely_35 : decode cX8_freely 35 = .ok (.iload_n 2, 1) := by decide +kernel
theorem dX8_freely_36 : decode cX8_freely 36 = .ok (.aload_n 0, 1) := by decide +kernel
theorem dX8_freely_37 : decode cX8_freely 37 = .ok (.getfield 23, 3) := by decide +kernel
theorem dX8_freely_40 : decode cX8_freely 40 = .ok (.getfield 138, 3) := by decide +kernel
theorem dX8_freely_43 : decode cX8_freely 43 = .ok (.invokevirtual 199, 3) := by decide +kernel
theorem dX8_freely_46 : decode cX8_freely 46 = .ok (.invokestatic 148, 3) := by decide +kernel
theorem dX8_freely_49 : decode cX8_freely 49 = .ok (.goto 4, 3) := by decide +kernel
theorem dX8_freely_52 : decode cX8_freely 52 = .ok (.iconst (-1), 1) := by decide +kernel
theorem dX8_freely_53 : decode cX8_freely 53 = .ok (.ireturn, 1) := by decide +kernel
theorem dX8_hard_0 : decode cX8_hard 0 = .ok (.aload_n 0, 1) := by decide +kernel
theorem dX8_hard_1 : decode cX8_hard 1 = .ok (.invokevirtual 120, 3) := by decide +kernel
theorem dX8_hard_4 : decode cX8_hard 4 = .ok (.ifCond .ne 6, 3) := by decide +kernel
theorem dX8_hard_7 : decode cX8_hard 7 = .ok (.bipush (-2), 2) := by decide +kernel
theorem dX8_hard_9 : decode cX8_hard 9 = .ok (.ireturn, 1) := by decide +kernel
theorem dX8_hard_10 : decode cX8_hard 10 = .ok (.iconst (-1), 1) := by decide +kernel
theorem dX8_hard_11 : decode cX8_hard 11 = .ok (.istore_n 1, 1) := by decide +kernel
theorem dX8_hard_12 : decode cX8_hard 12 = .ok (.bipush 65, 2) := by decide +kernel
theorem dX8_hard_14 : decode cX8_hard 14 = .ok (.istore_n 2, 1) := by decide +kernel
theorem dX8_hard_15 : decode cX8_hard 15 = .ok (.iconst 0, 1) := by decide +kernel
theorem dX8_hard_16 : decode cX8_hard 16 = .ok (.istore_n 3, 1) := by decide +kernel
theorem dX8_hard_17 : decode cX8_hard 17 = .ok (.iload_n 3, 1) := by decide +kernel
theorem dX8_hard_18 : decode cX8_hard 18 = .ok (.aload_n 0, 1) := by decide +kernel
theorem dX8_hard_19 : decode cX8_hard 19 = .ok (.getfield 23, 3) := by decide +kernel
theorem dX8_hard_22 : decode cX8_hard 22 = .ok (.getfield 164, 3) := by decide +kernel
theorem dX8_hard_25 : decode cX8_hard 25 = .ok (.if_icmp .ge 34, 3) := by decide +kernel
theorem dX8_hard_28 : decode cX8_hard 28 = .ok (.aload_n 0, 1) := by decide +kernel
theorem dX8_hard_29 : decode cX8_hard 29 = .ok (.getfield 38, 3) := by decide +kernel
theorem dX8_hard_32 : decode cX8_hard 32 = .ok (.getfield 167, 3) := by decide +kernel
theorem dX8_hard_35 : decode cX8_hard 35 = .ok (.iload_n 3, 1) := by decide +kernel
theorem dX8_hard_36 : decode cX8_hard 36 = .ok (.laload, 1) := by decide +kernel
theorem dX8_hard_37 : decode cX8_hard 37 = .ok (.invokestatic 148, 3) := by decide +kernel
theorem dX8_hard_40 : decode cX8_hard 40 = .ok (.istore 4, 2) := by decide +kernel
theorem dX8_hard_42 : decode cX8_hard 42 = .ok (.iload 4, 2) := by decide +kernel
theorem dX8_hard_44 : decode cX8_hard 44 = .ok (.iload_n 2, 1) := by decide +kernel
theorem dX8_hard_45 : decode cX8_hard 45 = .ok (.if_icmp .ge 8, 3) := by decide +kernel
theorem dX8_hard_48 : decode cX8_hard 48 = .ok (.iload 4, 2) := by decide +kernel
theorem dX8_hard_50 : decode cX8_hard 50 = .ok (.istore_n 2, 1) := by decide +kernel
theorem dX8_hard_51 : decode cX8_hard 51 = .ok (.iload_n 3, 1) := by decide +kernel
theorem dX8_hard_52 : decode cX8_hard 52 = .ok (.istore_n 1, 1) := by decide +kernel
theorem dX8_hard_53 : decode cX8_hard 53 = .ok (.iinc 3 1, 3) := by decide +kernel
theorem dX8_hard_56 : decode cX8_hard 56 = .ok (.goto (-39), 3) := by decide +kernel
theorem dX8_hard_59 : decode cX8_hard 59 = .ok (.iload_n 1, 1) := by decide +kernel
theorem dX8_hard_60 : decode cX8_hard 60 = .ok (.ireturn, 1) := by decide +kernel
theorem dX8_holds_0 : decode cX8_holds 0 = .ok (.aload_n 0, 1) := by decide +kernel
theorem dX8_holds_1 : decode cX8_holds 1 = .ok (.iload_n 1, 1) := by decide +kernel
theorem dX8_holds_2 : decode cX8_holds 2 = .ok (.invokevirtual 108, 3) := by decide +kernel
theorem dX8_holds_5 : decode cX8_holds 5 = .ok (.ifCond .ne 11, 3) := by decide +kernel
theorem dX8_holds_8 : decode cX8_holds 8 = .ok (.aload_n 0, 1) := by decide +kernel
theorem dX8_holds_9 : decode cX8_holds 9 = .ok (.iload_n 2, 1) := by decide +kernel
theorem dX8_holds_10 : decode cX8_holds 10 = .ok (.invokevirtual 124, 3) := by decide +kernel
theorem dX8_holds_13 : decode cX8_holds 13 = .ok (.ifCond .eq 6, 3) := by decide +kernel
theorem dX8_holds_16 : decode cX8_holds 16 = .ok (.bipush (-2), 2) := by decide +kernel
theorem dX8_holds_18 : decode cX8_holds 18 = .ok (.ireturn, 1) := by decide +kernel
theorem dX8_holds_19 : decode cX8_holds 19 = .ok (.aload_n 0, 1) := by decide +kernel
theorem dX8_holds_20 : decode cX8_holds 20 = .ok (.getfield 38, 3) := by decide +kernel
theorem dX8_holds_23 : decode cX8_holds 23 = .ok (.iload_n 1, 1) := by decide +kernel
theorem dX8_holds_24 : decode cX8_holds 24 = .ok (.iload_n 2, 1) := by decide +kernel
theorem dX8_holds_25 : decode cX8_holds 25 = .ok (.invokevirtual 131, 3) := by decide +kernel
theorem dX8_holds_28 : decode cX8_holds 28 = .ok (.ifCond .eq 7, 3) := by decide +kernel
theorem dX8_holds_31 : decode cX8_holds 31 = .ok (.iconst 1, 1) := by decide +kernel
theorem dX8_holds_32 : decode cX8_holds 32 = .ok (.goto 4, 3) := by decide +kernel
theorem dX8_holds_35 : decode cX8_holds 35 = .ok (.iconst 0, 1) := by decide +kernel
theorem dX8_holds_36 : decode cX8_holds 36 = .ok (.ireturn, 1) := by decide +kernel
theorem dX8_isTold_0 : decode cX8_isTold 0 = .ok (.aload_n 0, 1) := by decide +kernel
theorem dX8_isTold_1 : decode cX8_isTold 1 = .ok (.getfield 23, 3) := by decide +kernel
theorem dX8_isTold_4 : decode cX8_isTold 4 = .ok (.getfield 91, 3) := by decide +kernel
theorem dX8_isTold_7 : decode cX8_isTold 7 = .ok (.ifCond .le 7, 3) := by decide +kernel
theorem dX8_isTold_10 : decode cX8_isTold 10 = .ok (.iconst 1, 1) := by decide +kernel
theorem dX8_isTold_11 : decode cX8_isTold 11 = .ok (.goto 4, 3) := by decide +kernel
theorem dX8_isTold_14 : decode cX8_isTold 14 = .ok (.iconst 0, 1) := by decide +kernel
theorem dX8_isTold_15 : decode cX8_isTold 15 = .ok (.ireturn, 1) := by decide +kernel
theorem dX8_locked_0 : decode cX8_locked 0 = .ok (.aload_n 0, 1) := by decide +kernel
theorem dX8_locked_1 : decode cX8_locked 1 = .ok (.invokevirtual 120, 3) := by decide +kernel
theorem dX8_locked_4 : decode cX8_locked 4 = .ok (.ifCond .eq 13, 3) := by decide +kernel
theorem dX8_locked_7 : decode cX8_locked 7 = .ok (.aload_n 0, 1) := by decide +kernel
theorem dX8_locked_8 : decode cX8_locked 8 = .ok (.getfield 23, 3) := by decide +kernel
theorem dX8_locked_11 : decode cX8_locked 11 = .ok (.getfield 138, 3) := by decide +kernel
theorem dX8_locked_14 : decode cX8_locked 14 = .ok (.goto 5, 3) := by decide +kernel
theorem dX8_locked_17 : decode cX8_locked 17 = .ok (.bipush (-2), 2) := by decide +kernel
theorem dX8_locked_19 : decode cX8_locked 19 = .ok (.ireturn, 1) := by decide +kernel
theorem dX8_merge_0 : decode cX8_merge 0 = .ok (.aload_n 0, 1) := by decide +kernel
theorem dX8_merge_1 : decode cX8_merge 1 = .ok (.iload_n 1, 1) := by decide +kernel
theorem dX8_merge_2 : decode cX8_merge 2 = .ok (.invokevirtual 124, 3) := by decide +kernel
theorem dX8_merge_5 : decode cX8_merge 5 = .ok (.ifCond .ne 19, 3) := by decide +kernel
theorem dX8_merge_8 : decode cX8_merge 8 = .ok (.aload_n 0, 1) := by decide +kernel
theorem dX8_merge_9 : decode cX8_merge 9 = .ok (.iload_n 2, 1) := by decide +kernel
theorem dX8_merge_10 : decode cX8_merge 10 = .ok (.invokevirtual 124, 3) := by decide +kernel
theorem dX8_merge_13 : decode cX8_merge 13 = .ok (.ifCond .ne 11, 3) := by decide +kernel
theorem dX8_merge_16 : decode cX8_merge 16 = .ok (.aload_n 0, 1) := by decide +kernel
theorem dX8_merge_17 : decode cX8_merge 17 = .ok (.iload_n 3, 1) := by decide +kernel
theorem dX8_merge_18 : decode cX8_merge 18 = .ok (.invokevirtual 124, 3) := by decide +kernel
theorem dX8_merge_21 : decode cX8_merge 21 = .ok (.ifCond .eq 6, 3) := by decide +kernel
theorem dX8_merge_24 : decode cX8_merge 24 = .ok (.bipush (-2), 2) := by decide +kernel
theorem dX8_merge_26 : decode cX8_merge 26 = .ok (.ireturn, 1) := by decide +kernel
theorem dX8_merge_27 : decode cX8_merge 27 = .ok (.aload_n 0, 1) := by decide +kernel
theorem dX8_merge_28 : decode cX8_merge 28 = .ok (.getfield 47, 3) := by decide +kernel
theorem dX8_merge_31 : decode cX8_merge 31 = .ok (.iload_n 1, 1) := by decide +kernel
theorem dX8_merge_32 : decode cX8_merge 32 = .ok (.iload_n 2, 1) := by decide +kernel
theorem dX8_merge_33 : decode cX8_merge 33 = .ok (.iload_n 3, 1) := by decide +kernel
theorem dX8_merge_34 : decode cX8_merge 34 = .ok (.invokevirtual 189, 3) := by decide +kernel
theorem dX8_merge_37 : decode cX8_merge 37 = .ok (.ireturn, 1) := by decide +kernel
theorem dX8_nearest_0 : decode cX8_nearest 0 = .ok (.aload_n 0, 1) := by decide +kernel
theorem dX8_nearest_1 : decode cX8_nearest 1 = .ok (.iload_n 1, 1) := by decide +kernel
theorem dX8_nearest_2 : decode cX8_nearest 2 = .ok (.invokevirtual 124, 3) := by decide +kernel
theorem dX8_nearest_5 : decode cX8_nearest 5 = .ok (.ifCond .eq 6, 3) := by decide +kernel
theorem dX8_nearest_8 : decode cX8_nearest 8 = .ok (.bipush (-2), 2) := by decide +kernel
theorem dX8_nearest_10 : decode cX8_nearest 10 = .ok (.ireturn, 1) := by decide +kernel
theorem dX8_nearest_11 : decode cX8_nearest 11 = .ok (.iconst (-1), 1) := by decide +kernel
theorem dX8_nearest_12 : decode cX8_nearest 12 = .ok (.istore_n 2, 1) := by decide +kernel
theorem dX8_nearest_13 : decode cX8_nearest 13 = .ok (.iconst 4, 1) := by decide +kernel
theorem dX8_nearest_14 : decode cX8_nearest 14 = .ok (.istore_n 3, 1) := by decide +kernel
theorem dX8_nearest_15 : decode cX8_nearest 15 = .ok (.iconst 0, 1) := by decide +kernel
theorem dX8_nearest_16 : decode cX8_nearest 16 = .ok (.istore 4, 2) := by decide +kernel
theorem dX8_nearest_18 : decode cX8_nearest 18 = .ok (.iload 4, 2) := by decide +kernel
theorem dX8_nearest_20 : decode cX8_nearest 20 = .ok (.aload_n 0, 1) := by decide +kernel
theorem dX8_nearest_21 : decode cX8_nearest 21 = .ok (.getfield 38, 3) := by decide +kernel
theorem dX8_nearest_24 : decode cX8_nearest 24 = .ok (.getfield 123, 3) := by decide +kernel
theorem dX8_nearest_27 : decode cX8_nearest 27 = .ok (.if_icmp .ge 45, 3) := by decide +kernel
theorem dX8_nearest_30 : decode cX8_nearest 30 = .ok (.aload_n 0, 1) := by decide +kernel
theorem dX8_nearest_31 : decode cX8_nearest 31 = .ok (.getfield 38, 3) := by decide +kernel
theorem dX8_nearest_34 : decode cX8_nearest 34 = .ok (.iload_n 1, 1) := by decide +kernel
theorem dX8_nearest_35 : decode cX8_nearest 35 = .ok (.iload 4, 2) := by decide +kernel
theorem dX8_nearest_37 : decode cX8_nearest 37 = .ok (.invokevirtual 161, 3) := by decide +kernel
theorem dX8_nearest_40 : decode cX8_nearest 40 = .ok (.istore 5, 2) := by decide +kernel
theorem dX8_nearest_42 : decode cX8_nearest 42 = .ok (.aload_n 0, 1) := by decide +kernel
theorem dX8_nearest_43 : decode cX8_nearest 43 = .ok (.getfield 47, 3) := by decide +kernel
theorem dX8_nearest_46 : decode cX8_nearest 46 = .ok (.iload 4, 2) := by decide +kernel
theorem dX8_nearest_48 : decode cX8_nearest 48 = .ok (.invokevirtual 141, 3) := by decide +kernel
theorem dX8_nearest_51 : decode cX8_nearest 51 = .ok (.ifCond .eq 15, 3) := by decide +kernel
theorem dX8_nearest_54 : decode cX8_nearest 54 = .ok (.iload 5, 2) := by decide +kernel
theorem dX8_nearest_56 : decode cX8_nearest 56 = .ok (.iload_n 3, 1) := by decide +kernel
theorem dX8_nearest_57 : decode cX8_nearest 57 = .ok (.if_icmp .ge 9, 3) := by decide +kernel
theorem dX8_nearest_60 : decode cX8_nearest 60 = .ok (.iload 5, 2) := by decide +kernel
theorem dX8_nearest_62 : decode cX8_nearest 62 = .ok (.istore_n 3, 1) := by decide +kernel
theorem dX8_nearest_63 : decode cX8_nearest 63 = .ok (.iload 4, 2) := by decide +kernel
theorem dX8_nearest_65 : decode cX8_nearest 65 = .ok (.istore_n 2, 1) := by decide +kernel
theorem dX8_nearest_66 : decode cX8_nearest 66 = .ok (.iinc 4 1, 3) := by decide +kernel
theorem dX8_nearest_69 : decode cX8_nearest 69 = .ok (.goto (-51), 3) := by decide +kernel
theorem dX8_nearest_72 : decode cX8_nearest 72 = .ok (.iload_n 2, 1) := by decide +kernel
theorem dX8_nearest_73 : decode cX8_nearest 73 = .ok (.ireturn, 1) := by decide +kernel
theorem dX8_noCell_0 : decode cX8_noCell 0 = .ok (.iload_n 1, 1) := by decide +kernel
theorem dX8_noCell_1 : decode cX8_noCell 1 = .ok (.ifCond .lt 14, 3) := by decide +kernel
theorem dX8_noCell_4 : decode cX8_noCell 4 = .ok (.iload_n 1, 1) := by decide +kernel
theorem dX8_noCell_5 : decode cX8_noCell 5 = .ok (.aload_n 0, 1) := by decide +kernel
theorem dX8_noCell_6 : decode cX8_noCell 6 = .ok (.getfield 23, 3) := by decide +kernel
theorem dX8_noCell_9 : decode cX8_noCell 9 = .ok (.getfield 158, 3) := by decide +kernel
theorem dX8_noCell_12 : decode cX8_noCell 12 = .ok (.if_icmp .lt 7, 3) := by decide +kernel
theorem dX8_noCell_15 : decode cX8_noCell 15 = .ok (.iconst 1, 1) := by decide +kernel
theorem dX8_noCell_16 : decode cX8_noCell 16 = .ok (.goto 4, 3) := by decide +kernel
theorem dX8_noCell_19 : decode cX8_noCell 19 = .ok (.iconst 0, 1) := by decide +kernel
theorem dX8_noCell_20 : decode cX8_noCell 20 = .ok (.ireturn, 1) := by decide +kernel
theorem dX8_noDepth_0 : decode cX8_noDepth 0 = .ok (.aload_n 0, 1) := by decide +kernel
theorem dX8_noDepth_1 : decode cX8_noDepth 1 = .ok (.invokevirtual 120, 3) := by decide +kernel
theorem dX8_noDepth_4 : decode cX8_noDepth 4 = .ok (.ifCond .eq 12, 3) := by decide +kernel
theorem dX8_noDepth_7 : decode cX8_noDepth 7 = .ok (.iload_n 1, 1) := by decide +kernel
theorem dX8_noDepth_8 : decode cX8_noDepth 8 = .ok (.ifCond .lt 8, 3) := by decide +kernel
theorem dX8_noDepth_11 : decode cX8_noDepth 11 = .ok (.iload_n 1, 1) := by decide +kernel
theorem dX8_noDepth_12 : decode cX8_noDepth 12 = .ok (.iconst 3, 1) := by decide +kernel
theorem dX8_noDepth_13 : decode cX8_noDepth 13 = .ok (.if_icmp .le 7, 3) := by decide +kernel
theorem dX8_noDepth_16 : decode cX8_noDepth 16 = .ok (.iconst 1, 1) := by decide +kernel
theorem dX8_noDepth_17 : decode cX8_noDepth 17 = .ok (.goto 4, 3) := by decide +kernel
theorem dX8_noDepth_20 : decode cX8_noDepth 20 = .ok (.iconst 0, 1) := by decide +kernel
theorem dX8_noDepth_21 : decode cX8_noDepth 21 = .ok (.ireturn, 1) := by decide +kernel
theorem dX8_noGame_0 : decode cX8_noGame 0 = .ok (.aload_n 0, 1) := by decide +kernel
theorem dX8_noGame_1 : decode cX8_noGame 1 = .ok (.iload_n 1, 1) := by decide +kernel
theorem dX8_noGame_2 : decode cX8_noGame 2 = .ok (.invokevirtual 114, 3) := by decide +kernel
theorem dX8_noGame_5 : decode cX8_noGame 5 = .ok (.ifCond .ne 16, 3) := by decide +kernel
theorem dX8_noGame_8 : decode cX8_noGame 8 = .ok (.aload_n 0, 1) := by decide +kernel
theorem dX8_noGame_9 : decode cX8_noGame 9 = .ok (.iload_n 2, 1) := by decide +kernel
theorem dX8_noGame_10 : decode cX8_noGame 10 = .ok (.invokevirtual 114, 3) := by decide +kernel
theorem dX8_noGame_13 : decode cX8_noGame 13 = .ok (.ifCond .ne 8, 3) := by decide +kernel
theorem dX8_noGame_16 : decode cX8_noGame 16 = .ok (.iload_n 1, 1) := by decide +kernel
theorem dX8_noGame_17 : decode cX8_noGame 17 = .ok (.iload_n 2, 1) := by decide +kernel
theorem dX8_noGame_18 : decode cX8_noGame 18 = .ok (.if_icmp .ne 7, 3) := by decide +kernel
theorem dX8_noGame_21 : decode cX8_noGame 21 = .ok (.iconst 1, 1) := by decide +kernel
theorem dX8_noGame_22 : decode cX8_noGame 22 = .ok (.goto 4, 3) := by decide +kernel
theorem dX8_noGame_25 : decode cX8_noGame 25 = .ok (.iconst 0, 1) := by decide +kernel
theorem dX8_noGame_26 : decode cX8_noGame 26 = .ok (.ireturn, 1) := by decide +kernel
theorem dX8_noOp_0 : decode cX8_noOp 0 = .ok (.iload_n 1, 1) := by decide +kernel
theorem dX8_noOp_1 : decode cX8_noOp 1 = .ok (.ifCond .lt 14, 3) := by decide +kernel
theorem dX8_noOp_4 : decode cX8_noOp 4 = .ok (.iload_n 1, 1) := by decide +kernel
theorem dX8_noOp_5 : decode cX8_noOp 5 = .ok (.aload_n 0, 1) := by decide +kernel
theorem dX8_noOp_6 : decode cX8_noOp 6 = .ok (.getfield 23, 3) := by decide +kernel
theorem dX8_noOp_9 : decode cX8_noOp 9 = .ok (.getfield 183, 3) := by decide +kernel
theorem dX8_noOp_12 : decode cX8_noOp 12 = .ok (.if_icmp .lt 7, 3) := by decide +kernel
theorem dX8_noOp_15 : decode cX8_noOp 15 = .ok (.iconst 1, 1) := by decide +kernel
theorem dX8_noOp_16 : decode cX8_noOp 16 = .ok (.goto 4, 3) := by decide +kernel
theorem dX8_noOp_19 : decode cX8_noOp 19 = .ok (.iconst 0, 1) := by decide +kernel
theorem dX8_noOp_20 : decode cX8_noOp 20 = .ok (.ireturn, 1) := by decide +kernel
theorem dX8_noRule_0 : decode cX8_noRule 0 = .ok (.iload_n 1, 1) := by decide +kernel
theorem dX8_noRule_1 : decode cX8_noRule 1 = .ok (.ifCond .lt 14, 3) := by decide +kernel
theorem dX8_noRule_4 : decode cX8_noRule 4 = .ok (.iload_n 1, 1) := by decide +kernel
theorem dX8_noRule_5 : decode cX8_noRule 5 = .ok (.aload_n 0, 1) := by decide +kernel
theorem dX8_noRule_6 : decode cX8_noRule 6 = .ok (.getfield 23, 3) := by decide +kernel
theorem dX8_noRule_9 : decode cX8_noRule 9 = .ok (.getfield 164, 3) := by decide +kernel
theorem dX8_noRule_12 : decode cX8_noRule 12 = .ok (.if_icmp .lt 7, 3) := by decide +kernel
theorem dX8_noRule_15 : decode cX8_noRule 15 = .ok (.iconst 1, 1) := by decide +kernel
theorem dX8_noRule_16 : decode cX8_noRule 16 = .ok (.goto 4, 3) := by decide +kernel
theorem dX8_noRule_19 : decode cX8_noRule 19 = .ok (.iconst 0, 1) := by decide +kernel
theorem dX8_noRule_20 : decode cX8_noRule 20 = .ok (.ireturn, 1) := by decide +kernel
theorem dX8_noSlot_0 : decode cX8_noSlot 0 = .ok (.iload_n 1, 1) := by decide +kernel
theorem dX8_noSlot_1 : decode cX8_noSlot 1 = .ok (.ifCond .lt 8, 3) := by decide +kernel
theorem dX8_noSlot_4 : decode cX8_noSlot 4 = .ok (.iload_n 1, 1) := by decide +kernel
theorem dX8_noSlot_5 : decode cX8_noSlot 5 = .ok (.iconst 4, 1) := by decide +kernel
theorem dX8_noSlot_6 : decode cX8_noSlot 6 = .ok (.if_icmp .lt 7, 3) := by decide +kernel
theorem dX8_noSlot_9 : decode cX8_noSlot 9 = .ok (.iconst 1, 1) := by decide +kernel
theorem dX8_noSlot_10 : decode cX8_noSlot 10 = .ok (.goto 4, 3) := by decide +kernel
theorem dX8_noSlot_13 : decode cX8_noSlot 13 = .ok (.iconst 0, 1) := by decide +kernel
theorem dX8_noSlot_14 : decode cX8_noSlot 14 = .ok (.ireturn, 1) := by decide +kernel
theorem dX8_noState_0 : decode cX8_noState 0 = .ok (.iload_n 1, 1) := by decide +kernel
theorem dX8_noState_1 : decode cX8_noState 1 = .ok (.ifCond .lt 14, 3) := by decide +kernel
theorem dX8_noState_4 : decode cX8_noState 4 = .ok (.iload_n 1, 1) := by decide +kernel
theorem dX8_noState_5 : decode cX8_noState 5 = .ok (.aload_n 0, 1) := by decide +kernel
theorem dX8_noState_6 : decode cX8_noState 6 = .ok (.getfield 38, 3) := by decide +kernel
theorem dX8_noState_9 : decode cX8_noState 9 = .ok (.getfield 123, 3) := by decide +kernel
theorem dX8_noState_12 : decode cX8_noState 12 = .ok (.if_icmp .lt 7, 3) := by decide +kernel
theorem dX8_noState_15 : decode cX8_noState 15 = .ok (.iconst 1, 1) := by decide +kernel
theorem dX8_noState_16 : decode cX8_noState 16 = .ok (.goto 4, 3) := by decide +kernel
theorem dX8_noState_19 : decode cX8_noState 19 = .ok (.iconst 0, 1) := by decide +kernel
theorem dX8_noState_20 : decode cX8_noState 20 = .ok (.ireturn, 1) := by decide +kernel
theorem dX8_op_0 : decode cX8_op 0 = .ok (.aload_n 0, 1) := by decide +kernel
theorem dX8_op_1 : decode cX8_op 1 = .ok (.iload_n 1, 1) := by decide +kernel
theorem dX8_op_2 : decode cX8_op 2 = .ok (.invokevirtual 114, 3) := by decide +kernel
theorem dX8_op_5 : decode cX8_op 5 = .ok (.ifCond .ne 12, 3) := by decide +kernel
theorem dX8_op_8 : decode cX8_op 8 = .ok (.iload_n 2, 1) := by decide +kernel
theorem dX8_op_9 : decode cX8_op 9 = .ok (.ifCond .lt 8, 3) := by decide +kernel
theorem dX8_op_12 : decode cX8_op 12 = .ok (.iload_n 2, 1) := by decide +kernel
theorem dX8_op_13 : decode cX8_op 13 = .ok (.iconst 4, 1) := by decide +kernel
theorem dX8_op_14 : decode cX8_op 14 = .ok (.if_icmp .lt 6, 3) := by decide +kernel
theorem dX8_op_17 : decode cX8_op 17 = .ok (.bipush (-2), 2) := by decide +kernel
theorem dX8_op_19 : decode cX8_op 19 = .ok (.ireturn, 1) := by decide +kernel
theorem dX8_op_20 : decode cX8_op 20 = .ok (.aload_n 0, 1) := by decide +kernel
theorem dX8_op_21 : decode cX8_op 21 = .ok (.getfield 23, 3) := by decide +kernel
theorem dX8_op_24 : decode cX8_op 24 = .ok (.getfield 117, 3) := by decide +kernel
theorem dX8_op_27 : decode cX8_op 27 = .ok (.iload_n 1, 1) := by decide +kernel
theorem dX8_op_28 : decode cX8_op 28 = .ok (.iconst 4, 1) := by decide +kernel
theorem dX8_op_29 : decode cX8_op 29 = .ok (.imul, 1) := by decide +kernel
theorem dX8_op_30 : decode cX8_op 30 = .ok (.iload_n 2, 1) := by decide +kernel
theorem dX8_op_31 : decode cX8_op 31 = .ok (.iadd, 1) := by decide +kernel
theorem dX8_op_32 : decode cX8_op 32 = .ok (.iaload, 1) := by decide +kernel
theorem dX8_op_33 : decode cX8_op 33 = .ok (.ireturn, 1) := by decide +kernel
theorem dX8_opens_0 : decode cX8_opens 0 = .ok (.aload_n 0, 1) := by decide +kernel
theorem dX8_opens_1 : decode cX8_opens 1 = .ok (.iload_n 1, 1) := by decide +kernel
theorem dX8_opens_2 : decode cX8_opens 2 = .ok (.invokevirtual 124, 3) := by decide +kernel
theorem dX8_opens_5 : decode cX8_opens 5 = .ok (.ifCond .eq 8, 3) := by decide +kernel
theorem dX8_opens_8 : decode cX8_opens 8 = .ok (.bipush (-2), 2) := by decide +kernel
theorem dX8_opens_10 : decode cX8_opens 10 = .ok (.goto 11, 3) := by decide +kernel
theorem dX8_opens_13 : decode cX8_opens 13 = .ok (.aload_n 0, 1) := by decide +kernel
theorem dX8_opens_14 : decode cX8_opens 14 = .ok (.getfield 47, 3) := by decide +kernel
theorem dX8_opens_17 : decode cX8_opens 17 = .ok (.iload_n 1, 1) := by decide +kernel
theorem dX8_opens_18 : decode cX8_opens 18 = .ok (.invokevirtual 186, 3) := by decide +kernel
theorem dX8_opens_21 : decode cX8_opens 21 = .ok (.ireturn, 1) := by decide +kernel
theorem dX8_reach_0 : decode cX8_reach 0 = .ok (.aload_n 0, 1) := by decide +kernel
theorem dX8_reach_1 : decode cX8_reach 1 = .ok (.iload_n 1, 1) := by decide +kernel
theorem dX8_reach_2 : decode cX8_reach 2 = .ok (.invokevirtual 124, 3) := by decide +kernel
theorem dX8_reach_5 : decode cX8_reach 5 = .ok (.ifCond .ne 11, 3) := by decide +kernel
theorem dX8_reach_8 : decode cX8_reach 8 = .ok (.aload_n 0, 1) := by decide +kernel
theorem dX8_reach_9 : decode cX8_reach 9 = .ok (.iload_n 2, 1) := by decide +kernel
theorem dX8_reach_10 : decode cX8_reach 10 = .ok (.invokevirtual 196, 3) := by decide +kernel
theorem dX8_reach_13 : decode cX8_reach 13 = .ok (.ifCond .eq 6, 3) := by decide +kernel
theorem dX8_reach_16 : decode cX8_reach 16 = .ok (.bipush (-2), 2) := by decide +kernel
theorem dX8_reach_18 : decode cX8_reach 18 = .ok (.ireturn, 1) := by decide +kernel
theorem dX8_reach_19 : decode cX8_reach 19 = .ok (.aload_n 0, 1) := by decide +kernel
theorem dX8_reach_20 : decode cX8_reach 20 = .ok (.getfield 47, 3) := by decide +kernel
theorem dX8_reach_23 : decode cX8_reach 23 = .ok (.iload_n 1, 1) := by decide +kernel
theorem dX8_reach_24 : decode cX8_reach 24 = .ok (.invokevirtual 141, 3) := by decide +kernel
theorem dX8_reach_27 : decode cX8_reach 27 = .ok (.ifCond .eq 19, 3) := by decide +kernel
theorem dX8_reach_30 : decode cX8_reach 30 = .ok (.aload_n 0, 1) := by decide +kernel
theorem dX8_reach_31 : decode cX8_reach 31 = .ok (.getfield 47, 3) := by decide +kernel
theorem dX8_reach_34 : decode cX8_reach 34 = .ok (.iload_n 1, 1) := by decide +kernel
theorem dX8_reach_35 : decode cX8_reach 35 = .ok (.iload_n 2, 1) := by decide +kernel
theorem dX8_reach_36 : decode cX8_reach 36 = .ok (.iconst 0, 1) := by decide +kernel
theorem dX8_reach_37 : decode cX8_reach 37 = .ok (.invokevirtual 199, 3) := by decide +kernel
theorem dX8_reach_40 : decode cX8_reach 40 = .ok (.invokestatic 148, 3) := by decide +kernel
theorem dX8_reach_43 : decode cX8_reach 43 = .ok (.goto 4, 3) := by decide +kernel
theorem dX8_reach_46 : decode cX8_reach 46 = .ok (.iconst (-1), 1) := by decide +kernel
theorem dX8_reach_47 : decode cX8_reach 47 = .ok (.ireturn, 1) := by decide +kernel
theorem dX8_room_0 : decode cX8_room 0 = .ok (.aload_n 0, 1) := by decide +kernel
theorem dX8_room_1 : decode cX8_room 1 = .ok (.iload_n 1, 1) := by decide +kernel
theorem dX8_room_2 : decode cX8_room 2 = .ok (.invokevirtual 100, 3) := by decide +kernel
theorem dX8_room_5 : decode cX8_room 5 = .ok (.ifCond .eq 6, 3) := by decide +kernel
theorem dX8_room_8 : decode cX8_room 8 = .ok (.bipush (-2), 2) := by decide +kernel
theorem dX8_room_10 : decode cX8_room 10 = .ok (.ireturn, 1) := by decide +kernel
theorem dX8_room_11 : decode cX8_room 11 = .ok (.iconst 0, 1) := by decide +kernel
theorem dX8_room_12 : decode cX8_room 12 = .ok (.istore_n 2, 1) := by decide +kernel
theorem dX8_room_13 : decode cX8_room 13 = .ok (.iconst 0, 1) := by decide +kernel
theorem dX8_room_14 : decode cX8_room 14 = .ok (.istore_n 3, 1) := by decide +kernel
theorem dX8_room_15 : decode cX8_room 15 = .ok (.iload_n 3, 1) := by decide +kernel
theorem dX8_room_16 : decode cX8_room 16 = .ok (.aload_n 0, 1) := by decide +kernel
theorem dX8_room_17 : decode cX8_room 17 = .ok (.getfield 38, 3) := by decide +kernel
theorem dX8_room_20 : decode cX8_room 20 = .ok (.getfield 123, 3) := by decide +kernel
theorem dX8_room_23 : decode cX8_room 23 = .ok (.if_icmp .ge 34, 3) := by decide +kernel
theorem dX8_room_26 : decode cX8_room 26 = .ok (.aload_n 0, 1) := by decide +kernel
theorem dX8_room_27 : decode cX8_room 27 = .ok (.getfield 47, 3) := by decide +kernel
theorem dX8_room_30 : decode cX8_room 30 = .ok (.iload_n 3, 1) := by decide +kernel
theorem dX8_room_31 : decode cX8_room 31 = .ok (.invokevirtual 141, 3) := by decide +kernel
theorem dX8_room_34 : decode cX8_room 34 = .ok (.ifCond .eq 17, 3) := by decide +kernel
theorem dX8_room_37 : decode cX8_room 37 = .ok (.iload_n 2, 1) := by decide +kernel
theorem dX8_room_38 : decode cX8_room 38 = .ok (.iconst 1, 1) := by decide +kernel
theorem dX8_room_39 : decode cX8_room 39 = .ok (.aload_n 0, 1) := by decide +kernel
theorem dX8_room_40 : decode cX8_room 40 = .ok (.getfield 38, 3) := by decide +kernel
theorem dX8_room_43 : decode cX8_room 43 = .ok (.iload_n 3, 1) := by decide +kernel
theorem dX8_room_44 : decode cX8_room 44 = .ok (.iload_n 1, 1) := by decide +kernel
theorem dX8_room_45 : decode cX8_room 45 = .ok (.invokevirtual 127, 3) := by decide +kernel
theorem dX8_room_48 : decode cX8_room 48 = .ok (.ishl, 1) := by decide +kernel
theorem dX8_room_49 : decode cX8_room 49 = .ok (.ior, 1) := by decide +kernel
theorem dX8_room_50 : decode cX8_room 50 = .ok (.istore_n 2, 1) := by decide +kernel
theorem dX8_room_51 : decode cX8_room 51 = .ok (.iinc 3 1, 3) := by decide +kernel
theorem dX8_room_54 : decode cX8_room 54 = .ok (.goto (-39), 3) := by decide +kernel
theorem dX8_room_57 : decode cX8_room 57 = .ok (.iload_n 2, 1) := by decide +kernel
theorem dX8_room_58 : decode cX8_room 58 = .ok (.ireturn, 1) := by decide +kernel
theorem dX8_rule_0 : decode cX8_rule 0 = .ok (.aload_n 0, 1) := by decide +kernel
theorem dX8_rule_1 : decode cX8_rule 1 = .ok (.iload_n 1, 1) := by decide +kernel
theorem dX8_rule_2 : decode cX8_rule 2 = .ok (.invokevirtual 108, 3) := by decide +kernel
theorem dX8_rule_5 : decode cX8_rule 5 = .ok (.ifCond .ne 12, 3) := by decide +kernel
theorem dX8_rule_8 : decode cX8_rule 8 = .ok (.iload_n 2, 1) := by decide +kernel
theorem dX8_rule_9 : decode cX8_rule 9 = .ok (.ifCond .lt 8, 3) := by decide +kernel
theorem dX8_rule_12 : decode cX8_rule 12 = .ok (.iload_n 2, 1) := by decide +kernel
theorem dX8_rule_13 : decode cX8_rule 13 = .ok (.iconst 5, 1) := by decide +kernel
theorem dX8_rule_14 : decode cX8_rule 14 = .ok (.if_icmp .lt 6, 3) := by decide +kernel
theorem dX8_rule_17 : decode cX8_rule 17 = .ok (.bipush (-2), 2) := by decide +kernel
theorem dX8_rule_19 : decode cX8_rule 19 = .ok (.ireturn, 1) := by decide +kernel
theorem dX8_rule_20 : decode cX8_rule 20 = .ok (.aload_n 0, 1) := by decide +kernel
theorem dX8_rule_21 : decode cX8_rule 21 = .ok (.getfield 23, 3) := by decide +kernel
theorem dX8_rule_24 : decode cX8_rule 24 = .ok (.getfield 111, 3) := by decide +kernel
theorem dX8_rule_27 : decode cX8_rule 27 = .ok (.iload_n 1, 1) := by decide +kernel
theorem dX8_rule_28 : decode cX8_rule 28 = .ok (.iconst 5, 1) := by decide +kernel
theorem dX8_rule_29 : decode cX8_rule 29 = .ok (.imul, 1) := by decide +kernel
theorem dX8_rule_30 : decode cX8_rule 30 = .ok (.iload_n 2, 1) := by decide +kernel
theorem dX8_rule_31 : decode cX8_rule 31 = .ok (.iadd, 1) := by decide +kernel
theorem dX8_rule_32 : decode cX8_rule 32 = .ok (.iaload, 1) := by decide +kernel
theorem dX8_rule_33 : decode cX8_rule 33 = .ok (.ireturn, 1) := by decide +kernel
theorem dX8_spare_0 : decode cX8_spare 0 = .ok (.aload_n 0, 1) := by decide +kernel
theorem dX8_spare_1 : decode cX8_spare 1 = .ok (.iload_n 1, 1) := by decide +kernel
theorem dX8_spare_2 : decode cX8_spare 2 = .ok (.invokevirtual 108, 3) := by decide +kernel
theorem dX8_spare_5 : decode cX8_spare 5 = .ok (.ifCond .eq 6, 3) := by decide +kernel
theorem dX8_spare_8 : decode cX8_spare 8 = .ok (.bipush (-2), 2) := by decide +kernel
theorem dX8_spare_10 : decode cX8_spare 10 = .ok (.ireturn, 1) := by decide +kernel
theorem dX8_spare_11 : decode cX8_spare 11 = .ok (.aload_n 0, 1) := by decide +kernel
theorem dX8_spare_12 : decode cX8_spare 12 = .ok (.getfield 47, 3) := by decide +kernel
theorem dX8_spare_15 : decode cX8_spare 15 = .ok (.aload_n 0, 1) := by decide +kernel
theorem dX8_spare_16 : decode cX8_spare 16 = .ok (.getfield 23, 3) := by decide +kernel
theorem dX8_spare_19 : decode cX8_spare 19 = .ok (.getfield 135, 3) := by decide +kernel
theorem dX8_spare_22 : decode cX8_spare 22 = .ok (.iconst 1, 1) := by decide +kernel
theorem dX8_spare_23 : decode cX8_spare 23 = .ok (.iload_n 1, 1) := by decide +kernel
theorem dX8_spare_24 : decode cX8_spare 24 = .ok (.ishl, 1) := by decide +kernel
theorem dX8_spare_25 : decode cX8_spare 25 = .ok (.ior, 1) := by decide +kernel
theorem dX8_spare_26 : decode cX8_spare 26 = .ok (.invokevirtual 171, 3) := by decide +kernel
theorem dX8_spare_29 : decode cX8_spare 29 = .ok (.aload_n 0, 1) := by decide +kernel
theorem dX8_spare_30 : decode cX8_spare 30 = .ok (.getfield 47, 3) := by decide +kernel
theorem dX8_spare_33 : decode cX8_spare 33 = .ok (.getfield 144, 3) := by decide +kernel
theorem dX8_spare_36 : decode cX8_spare 36 = .ok (.invokestatic 148, 3) := by decide +kernel
theorem dX8_spare_39 : decode cX8_spare 39 = .ok (.if_icmp .ne 7, 3) := by decide +kernel
theorem dX8_spare_42 : decode cX8_spare 42 = .ok (.iconst 1, 1) := by decide +kernel
theorem dX8_spare_43 : decode cX8_spare 43 = .ok (.goto 4, 3) := by decide +kernel
theorem dX8_spare_46 : decode cX8_spare 46 = .ok (.iconst 0, 1) := by decide +kernel
theorem dX8_spare_47 : decode cX8_spare 47 = .ok (.ireturn, 1) := by decide +kernel
theorem dX8_states_0 : decode cX8_states 0 = .ok (.aload_n 0, 1) := by decide +kernel
theorem dX8_states_1 : decode cX8_states 1 = .ok (.invokevirtual 120, 3) := by decide +kernel
theorem dX8_states_4 : decode cX8_states 4 = .ok (.ifCond .eq 13, 3) := by decide +kernel
theorem dX8_states_7 : decode cX8_states 7 = .ok (.aload_n 0, 1) := by decide +kernel
theorem dX8_states_8 : decode cX8_states 8 = .ok (.getfield 38, 3) := by decide +kernel
theorem dX8_states_11 : decode cX8_states 11 = .ok (.getfield 123, 3) := by decide +kernel
theorem dX8_states_14 : decode cX8_states 14 = .ok (.goto 5, 3) := by decide +kernel
theorem dX8_states_17 : decode cX8_states 17 = .ok (.bipush (-2), 2) := by decide +kernel
theorem dX8_states_19 : decode cX8_states 19 = .ok (.ireturn, 1) := by decide +kernel
theorem dX8_step_0 : decode cX8_step 0 = .ok (.aload_n 0, 1) := by decide +kernel
theorem dX8_step_1 : decode cX8_step 1 = .ok (.iload_n 1, 1) := by decide +kernel
theorem dX8_step_2 : decode cX8_step 2 = .ok (.invokevirtual 124, 3) := by decide +kernel
theorem dX8_step_5 : decode cX8_step 5 = .ok (.ifCond .ne 11, 3) := by decide +kernel
theorem dX8_step_8 : decode cX8_step 8 = .ok (.aload_n 0, 1) := by decide +kernel
theorem dX8_step_9 : decode cX8_step 9 = .ok (.iload_n 2, 1) := by decide +kernel
theorem dX8_step_10 : decode cX8_step 10 = .ok (.invokevirtual 124, 3) := by decide +kernel
theorem dX8_step_13 : decode cX8_step 13 = .ok (.ifCond .eq 8, 3) := by decide +kernel
theorem dX8_step_16 : decode cX8_step 16 = .ok (.bipush (-2), 2) := by decide +kernel
theorem dX8_step_18 : decode cX8_step 18 = .ok (.goto 12, 3) := by decide +kernel
theorem dX8_step_21 : decode cX8_step 21 = .ok (.aload_n 0, 1) := by decide +kernel
theorem dX8_step_22 : decode cX8_step 22 = .ok (.getfield 47, 3) := by decide +kernel
theorem dX8_step_25 : decode cX8_step 25 = .ok (.iload_n 1, 1) := by decide +kernel
theorem dX8_step_26 : decode cX8_step 26 = .ok (.iload_n 2, 1) := by decide +kernel
theorem dX8_step_27 : decode cX8_step 27 = .ok (.invokevirtual 206, 3) := by decide +kernel
theorem dX8_step_30 : decode cX8_step 30 = .ok (.ireturn, 1) := by decide +kernel
theorem dX8_table_0 : decode cX8_table 0 = .ok (.aload_n 0, 1) := by decide +kernel
theorem dX8_table_1 : decode cX8_table 1 = .ok (.invokevirtual 120, 3) := by decide +kernel
theorem dX8_table_4 : decode cX8_table 4 = .ok (.ifCond .ne 6, 3) := by decide +kernel
theorem dX8_table_7 : decode cX8_table 7 = .ok (.bipush (-2), 2) := by decide +kernel
theorem dX8_table_9 : decode cX8_table 9 = .ok (.ireturn, 1) := by decide +kernel
theorem dX8_table_10 : decode cX8_table 10 = .ok (.iconst 0, 1) := by decide +kernel
theorem dX8_table_11 : decode cX8_table 11 = .ok (.istore_n 1, 1) := by decide +kernel
theorem dX8_table_12 : decode cX8_table 12 = .ok (.iconst 0, 1) := by decide +kernel
theorem dX8_table_13 : decode cX8_table 13 = .ok (.istore_n 2, 1) := by decide +kernel
theorem dX8_table_14 : decode cX8_table 14 = .ok (.iload_n 2, 1) := by decide +kernel
theorem dX8_table_15 : decode cX8_table 15 = .ok (.aload_n 0, 1) := by decide +kernel
theorem dX8_table_16 : decode cX8_table 16 = .ok (.getfield 23, 3) := by decide +kernel
theorem dX8_table_19 : decode cX8_table 19 = .ok (.getfield 183, 3) := by decide +kernel
theorem dX8_table_22 : decode cX8_table 22 = .ok (.if_icmp .ge 45, 3) := by decide +kernel
theorem dX8_table_25 : decode cX8_table 25 = .ok (.iload_n 2, 1) := by decide +kernel
theorem dX8_table_26 : decode cX8_table 26 = .ok (.iconst 1, 1) := by decide +kernel
theorem dX8_table_27 : decode cX8_table 27 = .ok (.iadd, 1) := by decide +kernel
theorem dX8_table_28 : decode cX8_table 28 = .ok (.istore_n 3, 1) := by decide +kernel
theorem dX8_table_29 : decode cX8_table 29 = .ok (.iload_n 3, 1) := by decide +kernel
theorem dX8_table_30 : decode cX8_table 30 = .ok (.aload_n 0, 1) := by decide +kernel
theorem dX8_table_31 : decode cX8_table 31 = .ok (.getfield 23, 3) := by decide +kernel
theorem dX8_table_34 : decode cX8_table 34 = .ok (.getfield 183, 3) := by decide +kernel
theorem dX8_table_37 : decode cX8_table 37 = .ok (.if_icmp .ge 24, 3) := by decide +kernel
theorem dX8_table_40 : decode cX8_table 40 = .ok (.aload_n 0, 1) := by decide +kernel
theorem dX8_table_41 : decode cX8_table 41 = .ok (.getfield 47, 3) := by decide +kernel
theorem dX8_table_44 : decode cX8_table 44 = .ok (.iload_n 2, 1) := by decide +kernel
theorem dX8_table_45 : decode cX8_table 45 = .ok (.iload_n 3, 1) := by decide +kernel
theorem dX8_table_46 : decode cX8_table 46 = .ok (.invokevirtual 180, 3) := by decide +kernel
theorem dX8_table_49 : decode cX8_table 49 = .ok (.ifCond .eq 6, 3) := by decide +kernel
theorem dX8_table_52 : decode cX8_table 52 = .ok (.iinc 1 1, 3) := by decide +kernel
theorem dX8_table_55 : decode cX8_table 55 = .ok (.iinc 3 1, 3) := by decide +kernel
theorem dX8_table_58 : decode cX8_table 58 = .ok (.goto (-29), 3) := by decide +kernel
theorem dX8_table_61 : decode cX8_table 61 = .ok (.iinc 2 1, 3) := by decide +kernel
theorem dX8_table_64 : decode cX8_table 64 = .ok (.goto (-50), 3) := by decide +kernel
theorem dX8_table_67 : decode cX8_table 67 = .ok (.iload_n 1, 1) := by decide +kernel
theorem dX8_table_68 : decode cX8_table 68 = .ok (.ireturn, 1) := by decide +kernel
theorem dX8_valid_0 : decode cX8_valid 0 = .ok (.aload_n 0, 1) := by decide +kernel
theorem dX8_valid_1 : decode cX8_valid 1 = .ok (.iload_n 1, 1) := by decide +kernel
theorem dX8_valid_2 : decode cX8_valid 2 = .ok (.invokevirtual 124, 3) := by decide +kernel
theorem dX8_valid_5 : decode cX8_valid 5 = .ok (.ifCond .eq 6, 3) := by decide +kernel
theorem dX8_valid_8 : decode cX8_valid 8 = .ok (.bipush (-2), 2) := by decide +kernel
theorem dX8_valid_10 : decode cX8_valid 10 = .ok (.ireturn, 1) := by decide +kernel
theorem dX8_valid_11 : decode cX8_valid 11 = .ok (.aload_n 0, 1) := by decide +kernel
theorem dX8_valid_12 : decode cX8_valid 12 = .ok (.getfield 47, 3) := by decide +kernel
theorem dX8_valid_15 : decode cX8_valid 15 = .ok (.iload_n 1, 1) := by decide +kernel
theorem dX8_valid_16 : decode cX8_valid 16 = .ok (.invokevirtual 141, 3) := by decide +kernel
theorem dX8_valid_19 : decode cX8_valid 19 = .ok (.ifCond .eq 7, 3) := by decide +kernel
theorem dX8_valid_22 : decode cX8_valid 22 = .ok (.iconst 1, 1) := by decide +kernel
theorem dX8_valid_23 : decode cX8_valid 23 = .ok (.goto 4, 3) := by decide +kernel
theorem dX8_valid_26 : decode cX8_valid 26 = .ok (.iconst 0, 1) := by decide +kernel
theorem dX8_valid_27 : decode cX8_valid 27 = .ok (.ireturn, 1) := by decide +kernel
theorem dX8_valids_0 : decode cX8_valids 0 = .ok (.aload_n 0, 1) := by decide +kernel
theorem dX8_valids_1 : decode cX8_valids 1 = .ok (.invokevirtual 120, 3) := by decide +kernel
theorem dX8_valids_4 : decode cX8_valids 4 = .ok (.ifCond .eq 16, 3) := by decide +kernel
theorem dX8_valids_7 : decode cX8_valids 7 = .ok (.aload_n 0, 1) := by decide +kernel
theorem dX8_valids_8 : decode cX8_valids 8 = .ok (.getfield 47, 3) := by decide +kernel
theorem dX8_valids_11 : decode cX8_valids 11 = .ok (.getfield 144, 3) := by decide +kernel
theorem dX8_valids_14 : decode cX8_valids 14 = .ok (.invokestatic 148, 3) := by decide +kernel
theorem dX8_valids_17 : decode cX8_valids 17 = .ok (.goto 5, 3) := by decide +kernel
theorem dX8_valids_20 : decode cX8_valids 20 = .ok (.bipush (-2), 2) := by decide +kernel
theorem dX8_valids_22 : decode cX8_valids 22 = .ok (.ireturn, 1) := by decide +kernel
theorem dX8_value_0 : decode cX8_value 0 = .ok (.aload_n 0, 1) := by decide +kernel
theorem dX8_value_1 : decode cX8_value 1 = .ok (.iload_n 1, 1) := by decide +kernel
theorem dX8_value_2 : decode cX8_value 2 = .ok (.invokevirtual 124, 3) := by decide +kernel
theorem dX8_value_5 : decode cX8_value 5 = .ok (.ifCond .ne 11, 3) := by decide +kernel
theorem dX8_value_8 : decode cX8_value 8 = .ok (.aload_n 0, 1) := by decide +kernel
theorem dX8_value_9 : decode cX8_value 9 = .ok (.iload_n 2, 1) := by decide +kernel
theorem dX8_value_10 : decode cX8_value 10 = .ok (.invokevirtual 100, 3) := by decide +kernel
theorem dX8_value_13 : decode cX8_value 13 = .ok (.ifCond .eq 6, 3) := by decide +kernel
theorem dX8_value_16 : decode cX8_value 16 = .ok (.bipush (-2), 2) := by decide +kernel
theorem dX8_value_18 : decode cX8_value 18 = .ok (.ireturn, 1) := by decide +kernel
theorem dX8_value_19 : decode cX8_value 19 = .ok (.aload_n 0, 1) := by decide +kernel
theorem dX8_value_20 : decode cX8_value 20 = .ok (.getfield 38, 3) := by decide +kernel
theorem dX8_value_23 : decode cX8_value 23 = .ok (.iload_n 1, 1) := by decide +kernel
theorem dX8_value_24 : decode cX8_value 24 = .ok (.iload_n 2, 1) := by decide +kernel
theorem dX8_value_25 : decode cX8_value 25 = .ok (.invokevirtual 127, 3) := by decide +kernel
theorem dX8_value_28 : decode cX8_value 28 = .ok (.ireturn, 1) := by decide +kernel
theorem dX8_weight_0 : decode cX8_weight 0 = .ok (.aload_n 0, 1) := by decide +kernel
theorem dX8_weight_1 : decode cX8_weight 1 = .ok (.iload_n 1, 1) := by decide +kernel
theorem dX8_weight_2 : decode cX8_weight 2 = .ok (.invokevirtual 124, 3) := by decide +kernel
theorem dX8_weight_5 : decode cX8_weight 5 = .ok (.ifCond .eq 6, 3) := by decide +kernel
theorem dX8_weight_8 : decode cX8_weight 8 = .ok (.bipush (-2), 2) := by decide +kernel
theorem dX8_weight_10 : decode cX8_weight 10 = .ok (.ireturn, 1) := by decide +kernel
theorem dX8_weight_11 : decode cX8_weight 11 = .ok (.iconst 0, 1) := by decide +kernel
theorem dX8_weight_12 : decode cX8_weight 12 = .ok (.istore_n 2, 1) := by decide +kernel
theorem dX8_weight_13 : decode cX8_weight 13 = .ok (.iconst 0, 1) := by decide +kernel
theorem dX8_weight_14 : decode cX8_weight 14 = .ok (.istore_n 3, 1) := by decide +kernel
theorem dX8_weight_15 : decode cX8_weight 15 = .ok (.iload_n 3, 1) := by decide +kernel
theorem dX8_weight_16 : decode cX8_weight 16 = .ok (.aload_n 0, 1) := by decide +kernel
theorem dX8_weight_17 : decode cX8_weight 17 = .ok (.getfield 23, 3) := by decide +kernel
theorem dX8_weight_20 : decode cX8_weight 20 = .ok (.getfield 158, 3) := by decide +kernel
theorem dX8_weight_23 : decode cX8_weight 23 = .ok (.if_icmp .ge 21, 3) := by decide +kernel
theorem dX8_weight_26 : decode cX8_weight 26 = .ok (.iload_n 2, 1) := by decide +kernel
theorem dX8_weight_27 : decode cX8_weight 27 = .ok (.aload_n 0, 1) := by decide +kernel
theorem dX8_weight_28 : decode cX8_weight 28 = .ok (.getfield 38, 3) := by decide +kernel
theorem dX8_weight_31 : decode cX8_weight 31 = .ok (.iload_n 1, 1) := by decide +kernel
theorem dX8_weight_32 : decode cX8_weight 32 = .ok (.iload_n 3, 1) := by decide +kernel
theorem dX8_weight_33 : decode cX8_weight 33 = .ok (.invokevirtual 127, 3) := by decide +kernel
theorem dX8_weight_36 : decode cX8_weight 36 = .ok (.iadd, 1) := by decide +kernel
theorem dX8_weight_37 : decode cX8_weight 37 = .ok (.istore_n 2, 1) := by decide +kernel
theorem dX8_weight_38 : decode cX8_weight 38 = .ok (.iinc 3 1, 3) := by decide +kernel
theorem dX8_weight_41 : decode cX8_weight 41 = .ok (.goto (-26), 3) := by decide +kernel
theorem dX8_weight_44 : decode cX8_weight 44 = .ok (.iload_n 2, 1) := by decide +kernel
theorem dX8_weight_45 : decode cX8_weight 45 = .ok (.ireturn, 1) := by decide +kernel
theorem dX8_works_0 : decode cX8_works 0 = .ok (.aload_n 0, 1) := by decide +kernel
theorem dX8_works_1 : decode cX8_works 1 = .ok (.iload_n 1, 1) := by decide +kernel
theorem dX8_works_2 : decode cX8_works 2 = .ok (.invokevirtual 114, 3) := by decide +kernel
theorem dX8_works_5 : decode cX8_works 5 = .ok (.ifCond .eq 8, 3) := by decide +kernel
theorem dX8_works_8 : decode cX8_works 8 = .ok (.bipush (-2), 2) := by decide +kernel
theorem dX8_works_10 : decode cX8_works 10 = .ok (.goto 11, 3) := by decide +kernel
theorem dX8_works_13 : decode cX8_works 13 = .ok (.aload_n 0, 1) := by decide +kernel
theorem dX8_works_14 : decode cX8_works 14 = .ok (.getfield 47, 3) := by decide +kernel
theorem dX8_works_17 : decode cX8_works 17 = .ok (.iload_n 1, 1) := by decide +kernel
theorem dX8_works_18 : decode cX8_works 18 = .ok (.invokevirtual 177, 3) := by decide +kernel
theorem dX8_works_21 : decode cX8_works 21 = .ok (.ireturn, 1) := by decide +kernel
theorem iuX8_asked_X0 : ∀ w ∈ u_ws RX0 TX0 15, w ∈ W_X8_asked := fun w h => List.mem_cons_of_mem _ (List.mem_append_right _ (List.mem_append_right _ (List.mem_append_left _ (h))))
theorem iuX8_asked_X8 : ∀ w ∈ u_ws RX8 TX8 10, w ∈ W_X8_asked := fun w h => List.mem_cons_of_mem _ (List.mem_append_right _ (List.mem_append_left _ (h)))
theorem iuX8_breaks_X8 : ∀ w ∈ u_ws RX8 TX8 10, w ∈ W_X8_breaks := fun w h => List.mem_cons_of_mem _ (List.mem_append_right _ (List.mem_append_left _ (h)))
theorem iuX8_cell_X0 : ∀ w ∈ u_ws RX0 TX0 15, w ∈ W_X8_cell := fun w h => List.mem_cons_of_mem _ (List.mem_append_right _ (List.mem_append_right _ (List.mem_append_left _ (h))))
theorem iuX8_cell_X8 : ∀ w ∈ u_ws RX8 TX8 10, w ∈ W_X8_cell := fun w h => List.mem_cons_of_mem _ (List.mem_append_right _ (List.mem_append_left _ (h)))
theorem iuX8_clashes_X8 : ∀ w ∈ u_ws RX8 TX8 10, w ∈ W_X8_clashes := fun w h => List.mem_cons_of_mem _ (List.mem_append_right _ (List.mem_append_left _ (h)))
theorem iuX8_commute_X8 : ∀ w ∈ u_ws RX8 TX8 10, w ∈ W_X8_commute := fun w h => List.mem_cons_of_mem _ (List.mem_append_right _ (List.mem_append_left _ (h)))
theorem iuX8_dead_X6 : ∀ w ∈ u_ws RX6 TX6 8, w ∈ W_X8_dead := fun w h => List.mem_cons_of_mem _ (List.mem_append_right _ (List.mem_append_right _ (List.mem_append_left _ (h))))
theorem iuX8_dead_X8 : ∀ w ∈ u_ws RX8 TX8 10, w ∈ W_X8_dead := fun w h => List.mem_cons_of_mem _ (List.mem_append_right _ (List.mem_append_left _ (h)))
theorem iuX8_does_X8 : ∀ w ∈ u_ws RX8 TX8 10, w ∈ W_X8_does := fun w h => List.mem_cons_of_mem _ (List.mem_append_right _ (List.mem_append_left _ (h)))
theorem iuX8_dropped_X0 : ∀ w ∈ u_ws RX0 TX0 15, w ∈ W_X8_dropped := fun w h => List.mem_cons_of_mem _ (List.mem_append_right _ (List.mem_append_right _ (List.mem_append_left _ (h))))
theorem iuX8_dropped_X8 : ∀ w ∈ u_ws RX8 TX8 10, w ∈ W_X8_dropped := fun w h => List.mem_cons_of_mem _ (List.mem_append_right _ (List.mem_append_left _ (h)))
theorem iuX8_end_X7 : ∀ w ∈ u_ws RX7 TX7 2, w ∈ W_X8_end := fun w h => List.mem_cons_of_mem _ (List.mem_append_right _ (List.mem_append_right _ (h)))
theorem iuX8_end_X8 : ∀ w ∈ u_ws RX8 TX8 10, w ∈ W_X8_end := fun w h => List.mem_cons_of_mem _ (List.mem_append_right _ (List.mem_append_left _ (h)))
theorem iuX8_even_X8 : ∀ w ∈ u_ws RX8 TX8 10, w ∈ W_X8_even := fun w h => List.mem_cons_of_mem _ (List.mem_append_right _ (List.mem_append_left _ (h)))
theorem iuX8_far_X8 : ∀ w ∈ u_ws RX8 TX8 10, w ∈ W_X8_far := fun w h => List.mem_cons_of_mem _ (List.mem_append_right _ (List.mem_append_left _ (h)))
theorem iuX8_fault_X4 : ∀ w ∈ u_ws RX4 TX4 9, w ∈ W_X8_fault := fun w h => List.mem_cons_of_mem _ (List.mem_append_right _ (List.mem_append_right _ (h)))
theorem iuX8_fault_X8 : ∀ w ∈ u_ws RX8 TX8 10, w ∈ W_X8_fault := fun w h => List.mem_cons_of_mem _ (List.mem_append_right _ (List.mem_append_left _ (h)))
theorem iuX8_feed_X7 : ∀ w ∈ u_ws RX7 TX7 2, w ∈ W_X8_feed := fun w h => List.mem_cons_of_mem _ (List.mem_append_right _ (List.mem_append_right _ (List.mem_append_left _ (h))))
theorem iuX8_feed_X8 : ∀ w ∈ u_ws RX8 TX8 10, w ∈ W_X8_feed := fun w h => List.mem_cons_of_mem _ (List.mem_append_right _ (List.mem_append_left _ (h)))
theorem iuX8_freely_X0 : ∀ w ∈ u_ws RX0 TX0 15, w ∈ W_X8_freely := fun w h => List.mem_cons_of_mem _ (List.mem_append_right _ (List.mem_append_right _ (List.mem_append_left _ (h))))
theorem iuX8_freely_X8 : ∀ w ∈ u_ws RX8 TX8 10, w ∈ W_X8_freely := fun w h => List.mem_cons_of_mem _ (List.mem_append_right _ (List.mem_append_left _ (h)))
theorem iuX8_hard_X0 : ∀ w ∈ u_ws RX0 TX0 15, w ∈ W_X8_hard := fun w h => List.mem_cons_of_mem _ (List.mem_append_right _ (List.mem_append_right _ (List.mem_append_left _ (h))))
theorem iuX8_hard_X6 : ∀ w ∈ u_ws RX6 TX6 8, w ∈ W_X8_hard := fun w h => List.mem_cons_of_mem _ (List.mem_append_right _ (List.mem_append_right _ (List.mem_append_right _ (List.mem_append_left _ (h)))))
theorem iuX8_hard_X8 : ∀ w ∈ u_ws RX8 TX8 10, w ∈ W_X8_hard := fun w h => List.mem_cons_of_mem _ (List.mem_append_right _ (List.mem_append_left _ (h)))
theorem iuX8_holds_X8 : ∀ w ∈ u_ws RX8 TX8 10, w ∈ W_X8_holds := fun w h => List.mem_cons_of_mem _ (List.mem_append_right _ (List.mem_append_left _ (h)))
theorem iuX8_isTold_X0 : ∀ w ∈ u_ws RX0 TX0 15, w ∈ W_X8_isTold := fun w h => List.mem_cons_of_mem _ (List.mem_append_right _ (List.mem_append_right _ (h)))
theorem iuX8_isTold_X8 : ∀ w ∈ u_ws RX8 TX8 10, w ∈ W_X8_isTold := fun w h => List.mem_cons_of_mem _ (List.mem_append_right _ (List.mem_append_left _ (h)))
theorem iuX8_locked_X0 : ∀ w ∈ u_ws RX0 TX0 15, w ∈ W_X8_locked := fun w h => List.mem_cons_of_mem _ (List.mem_append_right _ (List.mem_append_right _ (List.mem_append_left _ (h))))
theorem iuX8_locked_X8 : ∀ w ∈ u_ws RX8 TX8 10, w ∈ W_X8_locked := fun w h => List.mem_cons_of_mem _ (List.mem_append_right _ (List.mem_append_left _ (h)))
theorem iuX8_merge_X8 : ∀ w ∈ u_ws RX8 TX8 10, w ∈ W_X8_merge := fun w h => List.mem_cons_of_mem _ (List.mem_append_right _ (List.mem_append_left _ (h)))
theorem iuX8_nearest_X6 : ∀ w ∈ u_ws RX6 TX6 8, w ∈ W_X8_nearest := fun w h => List.mem_cons_of_mem _ (List.mem_append_right _ (List.mem_append_right _ (List.mem_append_left _ (h))))
theorem iuX8_nearest_X8 : ∀ w ∈ u_ws RX8 TX8 10, w ∈ W_X8_nearest := fun w h => List.mem_cons_of_mem _ (List.mem_append_right _ (List.mem_append_left _ (h)))
theorem iuX8_noCell_X0 : ∀ w ∈ u_ws RX0 TX0 15, w ∈ W_X8_noCell := fun w h => List.mem_cons_of_mem _ (List.mem_append_right _ (List.mem_append_right _ (h)))
theorem iuX8_noCell_X8 : ∀ w ∈ u_ws RX8 TX8 10, w ∈ W_X8_noCell := fun w h => List.mem_cons_of_mem _ (List.mem_append_right _ (List.mem_append_left _ (h)))
theorem iuX8_noOp_X0 : ∀ w ∈ u_ws RX0 TX0 15, w ∈ W_X8_noOp := fun w h => List.mem_cons_of_mem _ (List.mem_append_right _ (List.mem_append_right _ (h)))
theorem iuX8_noOp_X8 : ∀ w ∈ u_ws RX8 TX8 10, w ∈ W_X8_noOp := fun w h => List.mem_cons_of_mem _ (List.mem_append_right _ (List.mem_append_left _ (h)))
theorem iuX8_noRule_X0 : ∀ w ∈ u_ws RX0 TX0 15, w ∈ W_X8_noRule := fun w h => List.mem_cons_of_mem _ (List.mem_append_right _ (List.mem_append_right _ (h)))
theorem iuX8_noRule_X8 : ∀ w ∈ u_ws RX8 TX8 10, w ∈ W_X8_noRule := fun w h => List.mem_cons_of_mem _ (List.mem_append_right _ (List.mem_append_left _ (h)))
theorem iuX8_noState_X6 : ∀ w ∈ u_ws RX6 TX6 8, w ∈ W_X8_noState := fun w h => List.mem_cons_of_mem _ (List.mem_append_right _ (List.mem_append_right _ (h)))
theorem iuX8_noState_X8 : ∀ w ∈ u_ws RX8 TX8 10, w ∈ W_X8_noState := fun w h => List.mem_cons_of_mem _ (List.mem_append_right _ (List.mem_append_left _ (h)))
theorem iuX8_op_X0 : ∀ w ∈ u_ws RX0 TX0 15, w ∈ W_X8_op := fun w h => List.mem_cons_of_mem _ (List.mem_append_right _ (List.mem_append_right _ (List.mem_append_left _ (h))))
theorem iuX8_op_X8 : ∀ w ∈ u_ws RX8 TX8 10, w ∈ W_X8_op := fun w h => List.mem_cons_of_mem _ (List.mem_append_right _ (List.mem_append_left _ (h)))
theorem iuX8_opens_X8 : ∀ w ∈ u_ws RX8 TX8 10, w ∈ W_X8_opens := fun w h => List.mem_cons_of_mem _ (List.mem_append_right _ (List.mem_append_left _ (h)))
theorem iuX8_reach_X8 : ∀ w ∈ u_ws RX8 TX8 10, w ∈ W_X8_reach := fun w h => List.mem_cons_of_mem _ (List.mem_append_right _ (List.mem_append_left _ (h)))
theorem iuX8_room_X6 : ∀ w ∈ u_ws RX6 TX6 8, w ∈ W_X8_room := fun w h => List.mem_cons_of_mem _ (List.mem_append_right _ (List.mem_append_right _ (List.mem_append_left _ (h))))
theorem iuX8_room_X8 : ∀ w ∈ u_ws RX8 TX8 10, w ∈ W_X8_room := fun w h => List.mem_cons_of_mem _ (List.mem_append_right _ (List.mem_append_left _ (h)))
theorem iuX8_rule_X0 : ∀ w ∈ u_ws RX0 TX0 15, w ∈ W_X8_rule := fun w h => List.mem_cons_of_mem _ (List.mem_append_right _ (List.mem_append_right _ (List.mem_append_left _ (h))))
theorem iuX8_rule_X8 : ∀ w ∈ u_ws RX8 TX8 10, w ∈ W_X8_rule := fun w h => List.mem_cons_of_mem _ (List.mem_append_right _ (List.mem_append_left _ (h)))
theorem iuX8_spare_X0 : ∀ w ∈ u_ws RX0 TX0 15, w ∈ W_X8_spare := fun w h => List.mem_cons_of_mem _ (List.mem_append_right _ (List.mem_append_right _ (List.mem_append_left _ (h))))
theorem iuX8_spare_X2 : ∀ w ∈ u_ws RX2 TX2 12, w ∈ W_X8_spare := fun w h => List.mem_cons_of_mem _ (List.mem_append_right _ (List.mem_append_right _ (List.mem_append_right _ (List.mem_append_left _ (h)))))
theorem iuX8_spare_X8 : ∀ w ∈ u_ws RX8 TX8 10, w ∈ W_X8_spare := fun w h => List.mem_cons_of_mem _ (List.mem_append_right _ (List.mem_append_left _ (h)))
theorem iuX8_states_X6 : ∀ w ∈ u_ws RX6 TX6 8, w ∈ W_X8_states := fun w h => List.mem_cons_of_mem _ (List.mem_append_right _ (List.mem_append_right _ (List.mem_append_left _ (h))))
theorem iuX8_states_X8 : ∀ w ∈ u_ws RX8 TX8 10, w ∈ W_X8_states := fun w h => List.mem_cons_of_mem _ (List.mem_append_right _ (List.mem_append_left _ (h)))
theorem iuX8_step_X8 : ∀ w ∈ u_ws RX8 TX8 10, w ∈ W_X8_step := fun w h => List.mem_cons_of_mem _ (List.mem_append_right _ (List.mem_append_left _ (h)))
theorem iuX8_table_X0 : ∀ w ∈ u_ws RX0 TX0 15, w ∈ W_X8_table := fun w h => List.mem_cons_of_mem _ (List.mem_append_right _ (List.mem_append_right _ (List.mem_append_left _ (h))))
theorem iuX8_table_X8 : ∀ w ∈ u_ws RX8 TX8 10, w ∈ W_X8_table := fun w h => List.mem_cons_of_mem _ (List.mem_append_right _ (List.mem_append_left _ (h)))
theorem iuX8_valid_X8 : ∀ w ∈ u_ws RX8 TX8 10, w ∈ W_X8_valid := fun w h => List.mem_cons_of_mem _ (List.mem_append_right _ (List.mem_append_left _ (h)))
theorem iuX8_valids_X2 : ∀ w ∈ u_ws RX2 TX2 12, w ∈ W_X8_valids := fun w h => List.mem_cons_of_mem _ (List.mem_append_right _ (List.mem_append_right _ (List.mem_append_left _ (h))))
theorem iuX8_valids_X8 : ∀ w ∈ u_ws RX8 TX8 10, w ∈ W_X8_valids := fun w h => List.mem_cons_of_mem _ (List.mem_append_right _ (List.mem_append_left _ (h)))
theorem iuX8_value_X8 : ∀ w ∈ u_ws RX8 TX8 10, w ∈ W_X8_value := fun w h => List.mem_cons_of_mem _ (List.mem_append_right _ (List.mem_append_left _ (h)))
theorem iuX8_weight_X0 : ∀ w ∈ u_ws RX0 TX0 15, w ∈ W_X8_weight := fun w h => List.mem_cons_of_mem _ (List.mem_append_right _ (List.mem_append_right _ (List.mem_append_left _ (h))))
theorem iuX8_weight_X8 : ∀ w ∈ u_ws RX8 TX8 10, w ∈ W_X8_weight := fun w h => List.mem_cons_of_mem _ (List.mem_append_right _ (List.mem_append_left _ (h)))
theorem iuX8_works_X8 : ∀ w ∈ u_ws RX8 TX8 10, w ∈ W_X8_works := fun w h => List.mem_cons_of_mem _ (List.mem_append_right _ (List.mem_append_left _ (h)))
theorem gw_X8_asked_J13_bitCount_95d88 : GoodIn W_X8_asked W_J13_bitCount_95d88 := fun w h => ⟨List.mem_cons_of_mem _ (List.mem_append_right _ (List.mem_append_right _ (List.mem_append_right _ (List.mem_append_right _ (List.mem_append_right _ (List.mem_append_right _ (List.mem_append_right _ (h)))))))), (wI_J13_bitCount_95d88 w h).2⟩
theorem gc_X8_asked_148_J13_bitCount_95d88 : GoodIn W_X8_asked (va_wsS RX8 148 yJ13_bitCount_95d88 W_J13_bitCount_95d88) := goodIn_app (goodIn_sub (List.forall_mem_cons.mpr ⟨List.mem_cons_of_mem _ (List.mem_append_left _ (List.mem_of_getElem? (i := 18) rfl)), List.forall_mem_cons.mpr ⟨List.mem_cons_of_mem _ (List.mem_append_left _ (List.mem_of_getElem? (i := 19) rfl)), List.forall_mem_cons.mpr ⟨List.mem_cons_of_mem _ (List.mem_append_left _ (List.mem_of_getElem? (i := 20) rfl)), fun _ h => absurd h List.not_mem_nil⟩⟩⟩) (by decide +kernel)) gw_X8_asked_J13_bitCount_95d88
theorem gw_X8_asked_X8_noState : GoodIn W_X8_asked W_X8_noState := fun w h => ⟨List.mem_cons_of_mem _ (List.mem_append_right _ (List.mem_append_right _ (List.mem_append_right _ (List.mem_append_left _ (h))))), (wI_X8_noState w h).2⟩
theorem gc_X8_asked_124_X8_noState : GoodIn W_X8_asked (wsV RX8 124 RX8 yX8_noState W_X8_noState) := goodIn_app (goodIn_sub (List.forall_mem_cons.mpr ⟨List.mem_cons_of_mem _ (List.mem_append_left _ (List.mem_of_getElem? (i := 0) rfl)), List.forall_mem_cons.mpr ⟨List.mem_cons_of_mem _ (List.mem_append_left _ (List.mem_of_getElem? (i := 1) rfl)), List.forall_mem_cons.mpr ⟨List.mem_cons_of_mem _ (List.mem_append_left _ (List.mem_of_getElem? (i := 2) rfl)), List.forall_mem_cons.mpr ⟨List.mem_cons_of_mem _ (List.mem_append_left _ (List.mem_of_getElem? (i := 3) rfl)), fun _ h => absurd h List.not_mem_nil⟩⟩⟩⟩) (by decide +kernel)) gw_X8_asked_X8_noState
theorem gw_X8_asked_X2_isValid : GoodIn W_X8_asked W_X2_isValid := fun w h => ⟨List.mem_cons_of_mem _ (List.mem_append_right _ (List.mem_append_right _ (List.mem_append_right _ (List.mem_append_right _ (List.mem_append_right _ (List.mem_append_left _ (h))))))), (wI_X2_isValid w h).2⟩
theorem gc_X8_asked_141_X2_isValid : GoodIn W_X8_asked (wsV RX8 141 RX2 yX2_isValid W_X2_isValid) := goodIn_app (goodIn_sub (List.forall_mem_cons.mpr ⟨List.mem_cons_of_mem _ (List.mem_append_left _ (List.mem_of_getElem? (i := 8) rfl)), List.forall_mem_cons.mpr ⟨List.mem_cons_of_mem _ (List.mem_append_left _ (List.mem_of_getElem? (i := 9) rfl)), List.forall_mem_cons.mpr ⟨List.mem_cons_of_mem _ (List.mem_append_left _ (List.mem_of_getElem? (i := 10) rfl)), List.forall_mem_cons.mpr ⟨List.mem_cons_of_mem _ (List.mem_append_left _ (List.mem_of_getElem? (i := 11) rfl)), fun _ h => absurd h List.not_mem_nil⟩⟩⟩⟩) (by decide +kernel)) gw_X8_asked_X2_isValid
theorem gw_X8_asked_X8_noDepth : GoodIn W_X8_asked W_X8_noDepth := fun w h => ⟨List.mem_cons_of_mem _ (List.mem_append_right _ (List.mem_append_right _ (List.mem_append_right _ (List.mem_append_right _ (List.mem_append_left _ (h)))))), (wI_X8_noDepth w h).2⟩
theorem gc_X8_asked_196_X8_noDepth : GoodIn W_X8_asked (wsV RX8 196 RX8 yX8_noDepth W_X8_noDepth) := goodIn_app (goodIn_sub (List.forall_mem_cons.mpr ⟨List.mem_cons_of_mem _ (List.mem_append_left _ (List.mem_of_getElem? (i := 4) rfl)), List.forall_mem_cons.mpr ⟨List.mem_cons_of_mem _ (List.mem_append_left _ (List.mem_of_getElem? (i := 5) rfl)), List.forall_mem_cons.mpr ⟨List.mem_cons_of_mem _ (List.mem_append_left _ (List.mem_of_getElem? (i := 6) rfl)), List.forall_mem_cons.mpr ⟨List.mem_cons_of_mem _ (List.mem_append_left _ (List.mem_of_getElem? (i := 3) rfl)), fun _ h => absurd h List.not_mem_nil⟩⟩⟩⟩) (by decide +kernel)) gw_X8_asked_X8_noDepth
theorem gw_X8_asked_X2_spread : GoodIn W_X8_asked W_X2_spread := fun w h => ⟨List.mem_cons_of_mem _ (List.mem_append_right _ (List.mem_append_right _ (List.mem_append_right _ (List.mem_append_right _ (List.mem_append_right _ (List.mem_append_right _ (List.mem_append_left _ (h)))))))), (wI_X2_spread w h).2⟩
theorem gc_X8_asked_199_X2_spread : GoodIn W_X8_asked (wsV RX8 199 RX2 yX2_spread W_X2_spread) := goodIn_app (goodIn_sub (List.forall_mem_cons.mpr ⟨List.mem_cons_of_mem _ (List.mem_append_left _ (List.mem_of_getElem? (i := 12) rfl)), List.forall_mem_cons.mpr ⟨List.mem_cons_of_mem _ (List.mem_append_left _ (List.mem_of_getElem? (i := 13) rfl)), List.forall_mem_cons.mpr ⟨List.mem_cons_of_mem _ (List.mem_append_left _ (List.mem_of_getElem? (i := 14) rfl)), List.forall_mem_cons.mpr ⟨List.mem_cons_of_mem _ (List.mem_append_left _ (List.mem_of_getElem? (i := 11) rfl)), fun _ h => absurd h List.not_mem_nil⟩⟩⟩⟩) (by decide +kernel)) gw_X8_asked_X2_spread
theorem gw_X8_breaks_X8_noState : GoodIn W_X8_breaks W_X8_noState := fun w h => ⟨List.mem_cons_of_mem _ (List.mem_append_right _ (List.mem_append_right _ (List.mem_append_left _ (h)))), (wI_X8_noState w h).2⟩
theorem gc_X8_breaks_124_X8_noState : GoodIn W_X8_breaks (wsV RX8 124 RX8 yX8_noState W_X8_noState) := goodIn_app (goodIn_sub (List.forall_mem_cons.mpr ⟨List.mem_cons_of_mem _ (List.mem_append_left _ (List.mem_of_getElem? (i := 0) rfl)), List.forall_mem_cons.mpr ⟨List.mem_cons_of_mem _ (List.mem_append_left _ (List.mem_of_getElem? (i := 1) rfl)), List.forall_mem_cons.mpr ⟨List.mem_cons_of_mem _ (List.mem_append_left _ (List.mem_of_getElem? (i := 2) rfl)), List.forall_mem_cons.mpr ⟨List.mem_cons_of_mem _ (List.mem_append_left _ (List.mem_of_getElem? (i := 3) rfl)), fun _ h => absurd h List.not_mem_nil⟩⟩⟩⟩) (by decide +kernel)) gw_X8_breaks_X8_noState
theorem gw_X8_breaks_X2_firstBroken : GoodIn W_X8_breaks W_X2_firstBroken := fun w h => ⟨List.mem_cons_of_mem _ (List.mem_append_right _ (List.mem_append_right _ (List.mem_append_right _ (h)))), (wI_X2_firstBroken w h).2⟩
theorem gc_X8_breaks_154_X2_firstBroken : GoodIn W_X8_breaks (wsV RX8 154 RX2 yX2_firstBroken W_X2_firstBroken) := goodIn_app (goodIn_sub (List.forall_mem_cons.mpr ⟨List.mem_cons_of_mem _ (List.mem_append_left _ (List.mem_of_getElem? (i := 5) rfl)), List.forall_mem_cons.mpr ⟨List.mem_cons_of_mem _ (List.mem_append_left _ (List.mem_of_getElem? (i := 6) rfl)), List.forall_mem_cons.mpr ⟨List.mem_cons_of_mem _ (List.mem_append_left _ (List.mem_of_getElem? (i := 7) rfl)), List.forall_mem_cons.mpr ⟨List.mem_cons_of_mem _ (List.mem_append_left _ (List.mem_of_getElem? (i := 8) rfl)), fun _ h => absurd h List.not_mem_nil⟩⟩⟩⟩) (by decide +kernel)) gw_X8_breaks_X2_firstBroken
theorem gw_X8_cell_X8_noCell : GoodIn W_X8_cell W_X8_noCell := fun w h => ⟨List.mem_cons_of_mem _ (List.mem_append_right _ (List.mem_append_right _ (List.mem_append_right _ (h)))), (wI_X8_noCell w h).2⟩
theorem gc_X8_cell_100_X8_noCell : GoodIn W_X8_cell (wsV RX8 100 RX8 yX8_noCell W_X8_noCell) := goodIn_app (goodIn_sub (List.forall_mem_cons.mpr ⟨List.mem_cons_of_mem _ (List.mem_append_left _ (List.mem_of_getElem? (i := 0) rfl)), List.forall_mem_cons.mpr ⟨List.mem_cons_of_mem _ (List.mem_append_left _ (List.mem_of_getElem? (i := 1) rfl)), List.forall_mem_cons.mpr ⟨List.mem_cons_of_mem _ (List.mem_append_left _ (List.mem_of_getElem? (i := 2) rfl)), List.forall_mem_cons.mpr ⟨List.mem_cons_of_mem _ (List.mem_append_left _ (List.mem_of_getElem? (i := 3) rfl)), fun _ h => absurd h List.not_mem_nil⟩⟩⟩⟩) (by decide +kernel)) gw_X8_cell_X8_noCell
theorem gw_X8_clashes_X8_noOp : GoodIn W_X8_clashes W_X8_noOp := fun w h => ⟨List.mem_cons_of_mem _ (List.mem_append_right _ (List.mem_append_right _ (List.mem_append_left _ (h)))), (wI_X8_noOp w h).2⟩
theorem gc_X8_clashes_114_X8_noOp : GoodIn W_X8_clashes (wsV RX8 114 RX8 yX8_noOp W_X8_noOp) := goodIn_app (goodIn_sub (List.forall_mem_cons.mpr ⟨List.mem_cons_of_mem _ (List.mem_append_left _ (List.mem_of_getElem? (i := 0) rfl)), List.forall_mem_cons.mpr ⟨List.mem_cons_of_mem _ (List.mem_append_left _ (List.mem_of_getElem? (i := 1) rfl)), List.forall_mem_cons.mpr ⟨List.mem_cons_of_mem _ (List.mem_append_left _ (List.mem_of_getElem? (i := 2) rfl)), List.forall_mem_cons.mpr ⟨List.mem_cons_of_mem _ (List.mem_append_left _ (List.mem_of_getElem? (i := 3) rfl)), fun _ h => absurd h List.not_mem_nil⟩⟩⟩⟩) (by decide +kernel)) gw_X8_clashes_X8_noOp
theorem gw_X8_clashes_X2_clashesOf : GoodIn W_X8_clashes W_X2_clashesOf := fun w h => ⟨List.mem_cons_of_mem _ (List.mem_append_right _ (List.mem_append_right _ (List.mem_append_right _ (h)))), (wI_X2_clashesOf w h).2⟩
theorem gc_X8_clashes_193_X2_clashesOf : GoodIn W_X8_clashes (wsV RX8 193 RX2 yX2_clashesOf W_X2_clashesOf) := goodIn_app (goodIn_sub (List.forall_mem_cons.mpr ⟨List.mem_cons_of_mem _ (List.mem_append_left _ (List.mem_of_getElem? (i := 5) rfl)), List.forall_mem_cons.mpr ⟨List.mem_cons_of_mem _ (List.mem_append_left _ (List.mem_of_getElem? (i := 6) rfl)), List.forall_mem_cons.mpr ⟨List.mem_cons_of_mem _ (List.mem_append_left _ (List.mem_of_getElem? (i := 7) rfl)), List.forall_mem_cons.mpr ⟨List.mem_cons_of_mem _ (List.mem_append_left _ (List.mem_of_getElem? (i := 8) rfl)), fun _ h => absurd h List.not_mem_nil⟩⟩⟩⟩) (by decide +kernel)) gw_X8_clashes_X2_clashesOf
theorem gw_X8_commute_X8_noOp : GoodIn W_X8_commute W_X8_noOp := fun w h => ⟨List.mem_cons_of_mem _ (List.mem_append_right _ (List.mem_append_right _ (List.mem_append_left _ (h)))), (wI_X8_noOp w h).2⟩
theorem gc_X8_commute_114_X8_noOp : GoodIn W_X8_commute (wsV RX8 114 RX8 yX8_noOp W_X8_noOp) := goodIn_app (goodIn_sub (List.forall_mem_cons.mpr ⟨List.mem_cons_of_mem _ (List.mem_append_left _ (List.mem_of_getElem? (i := 0) rfl)), List.forall_mem_cons.mpr ⟨List.mem_cons_of_mem _ (List.mem_append_left _ (List.mem_of_getElem? (i := 1) rfl)), List.forall_mem_cons.mpr ⟨List.mem_cons_of_mem _ (List.mem_append_left _ (List.mem_of_getElem? (i := 2) rfl)), List.forall_mem_cons.mpr ⟨List.mem_cons_of_mem _ (List.mem_append_left _ (List.mem_of_getElem? (i := 3) rfl)), fun _ h => absurd h List.not_mem_nil⟩⟩⟩⟩) (by decide +kernel)) gw_X8_commute_X8_noOp
theorem gw_X8_commute_X2_commuting : GoodIn W_X8_commute W_X2_commuting := fun w h => ⟨List.mem_cons_of_mem _ (List.mem_append_right _ (List.mem_append_right _ (List.mem_append_right _ (h)))), (wI_X2_commuting w h).2⟩
theorem gc_X8_commute_180_X2_commuting : GoodIn W_X8_commute (wsV RX8 180 RX2 yX2_commuting W_X2_commuting) := goodIn_app (goodIn_sub (List.forall_mem_cons.mpr ⟨List.mem_cons_of_mem _ (List.mem_append_left _ (List.mem_of_getElem? (i := 5) rfl)), List.forall_mem_cons.mpr ⟨List.mem_cons_of_mem _ (List.mem_append_left _ (List.mem_of_getElem? (i := 6) rfl)), List.forall_mem_cons.mpr ⟨List.mem_cons_of_mem _ (List.mem_append_left _ (List.mem_of_getElem? (i := 7) rfl)), List.forall_mem_cons.mpr ⟨List.mem_cons_of_mem _ (List.mem_append_left _ (List.mem_of_getElem? (i := 8) rfl)), fun _ h => absurd h List.not_mem_nil⟩⟩⟩⟩) (by decide +kernel)) gw_X8_commute_X2_commuting
theorem gw_X8_dead_X8_isTold : GoodIn W_X8_dead W_X8_isTold := fun w h => ⟨List.mem_cons_of_mem _ (List.mem_append_right _ (List.mem_append_right _ (List.mem_append_right _ (List.mem_append_left _ (h))))), (wI_X8_isTold w h).2⟩
theorem gc_X8_dead_120_X8_isTold : GoodIn W_X8_dead (wsV RX8 120 RX8 yX8_isTold W_X8_isTold) := goodIn_app (goodIn_sub (List.forall_mem_cons.mpr ⟨List.mem_cons_of_mem _ (List.mem_append_left _ (List.mem_of_getElem? (i := 0) rfl)), List.forall_mem_cons.mpr ⟨List.mem_cons_of_mem _ (List.mem_append_left _ (List.mem_of_getElem? (i := 1) rfl)), List.forall_mem_cons.mpr ⟨List.mem_cons_of_mem _ (List.mem_append_left _ (List.mem_of_getElem? (i := 2) rfl)), List.forall_mem_cons.mpr ⟨List.mem_cons_of_mem _ (List.mem_append_left _ (List.mem_of_getElem? (i := 3) rfl)), fun _ h => absurd h List.not_mem_nil⟩⟩⟩⟩) (by decide +kernel)) gw_X8_dead_X8_isTold
theorem gw_X8_dead_X2_isValid : GoodIn W_X8_dead W_X2_isValid := fun w h => ⟨List.mem_cons_of_mem _ (List.mem_append_right _ (List.mem_append_right _ (List.mem_append_right _ (List.mem_append_right _ (List.mem_append_left _ (h)))))), (wI_X2_isValid w h).2⟩
theorem gc_X8_dead_141_X2_isValid : GoodIn W_X8_dead (wsV RX8 141 RX2 yX2_isValid W_X2_isValid) := goodIn_app (goodIn_sub (List.forall_mem_cons.mpr ⟨List.mem_cons_of_mem _ (List.mem_append_left _ (List.mem_of_getElem? (i := 7) rfl)), List.forall_mem_cons.mpr ⟨List.mem_cons_of_mem _ (List.mem_append_left _ (List.mem_of_getElem? (i := 8) rfl)), List.forall_mem_cons.mpr ⟨List.mem_cons_of_mem _ (List.mem_append_left _ (List.mem_of_getElem? (i := 9) rfl)), List.forall_mem_cons.mpr ⟨List.mem_cons_of_mem _ (List.mem_append_left _ (List.mem_of_getElem? (i := 10) rfl)), fun _ h => absurd h List.not_mem_nil⟩⟩⟩⟩) (by decide +kernel)) gw_X8_dead_X2_isValid
theorem gw_X8_dead_X2_openOps : GoodIn W_X8_dead W_X2_openOps := fun w h => ⟨List.mem_cons_of_mem _ (List.mem_append_right _ (List.mem_append_right _ (List.mem_append_right _ (List.mem_append_right _ (List.mem_append_right _ (h)))))), (wI_X2_openOps w h).2⟩
theorem gc_X8_dead_186_X2_openOps : GoodIn W_X8_dead (wsV RX8 186 RX2 yX2_openOps W_X2_openOps) := goodIn_app (goodIn_sub (List.forall_mem_cons.mpr ⟨List.mem_cons_of_mem _ (List.mem_append_left _ (List.mem_of_getElem? (i := 11) rfl)), List.forall_mem_cons.mpr ⟨List.mem_cons_of_mem _ (List.mem_append_left _ (List.mem_of_getElem? (i := 12) rfl)), List.forall_mem_cons.mpr ⟨List.mem_cons_of_mem _ (List.mem_append_left _ (List.mem_of_getElem? (i := 13) rfl)), List.forall_mem_cons.mpr ⟨List.mem_cons_of_mem _ (List.mem_append_left _ (List.mem_of_getElem? (i := 10) rfl)), fun _ h => absurd h List.not_mem_nil⟩⟩⟩⟩) (by decide +kernel)) gw_X8_dead_X2_openOps
theorem gw_X8_does_X8_noOp : GoodIn W_X8_does W_X8_noOp := fun w h => ⟨List.mem_cons_of_mem _ (List.mem_append_right _ (List.mem_append_right _ (List.mem_append_left _ (h)))), (wI_X8_noOp w h).2⟩
theorem gc_X8_does_114_X8_noOp : GoodIn W_X8_does (wsV RX8 114 RX8 yX8_noOp W_X8_noOp) := goodIn_app (goodIn_sub (List.forall_mem_cons.mpr ⟨List.mem_cons_of_mem _ (List.mem_append_left _ (List.mem_of_getElem? (i := 0) rfl)), List.forall_mem_cons.mpr ⟨List.mem_cons_of_mem _ (List.mem_append_left _ (List.mem_of_getElem? (i := 1) rfl)), List.forall_mem_cons.mpr ⟨List.mem_cons_of_mem _ (List.mem_append_left _ (List.mem_of_getElem? (i := 2) rfl)), List.forall_mem_cons.mpr ⟨List.mem_cons_of_mem _ (List.mem_append_left _ (List.mem_of_getElem? (i := 3) rfl)), fun _ h => absurd h List.not_mem_nil⟩⟩⟩⟩) (by decide +kernel)) gw_X8_does_X8_noOp
theorem gw_X8_does_X8_noState : GoodIn W_X8_does W_X8_noState := fun w h => ⟨List.mem_cons_of_mem _ (List.mem_append_right _ (List.mem_append_right _ (List.mem_append_right _ (List.mem_append_left _ (h))))), (wI_X8_noState w h).2⟩
theorem gc_X8_does_124_X8_noState : GoodIn W_X8_does (wsV RX8 124 RX8 yX8_noState W_X8_noState) := goodIn_app (goodIn_sub (List.forall_mem_cons.mpr ⟨List.mem_cons_of_mem _ (List.mem_append_left _ (List.mem_of_getElem? (i := 4) rfl)), List.forall_mem_cons.mpr ⟨List.mem_cons_of_mem _ (List.mem_append_left _ (List.mem_of_getElem? (i := 5) rfl)), List.forall_mem_cons.mpr ⟨List.mem_cons_of_mem _ (List.mem_append_left _ (List.mem_of_getElem? (i := 6) rfl)), List.forall_mem_cons.mpr ⟨List.mem_cons_of_mem _ (List.mem_append_left _ (List.mem_of_getElem? (i := 3) rfl)), fun _ h => absurd h List.not_mem_nil⟩⟩⟩⟩) (by decide +kernel)) gw_X8_does_X8_noState
theorem gw_X8_does_X2_outcome : GoodIn W_X8_does W_X2_outcome := fun w h => ⟨List.mem_cons_of_mem _ (List.mem_append_right _ (List.mem_append_right _ (List.mem_append_right _ (List.mem_append_right _ (h))))), (wI_X2_outcome w h).2⟩
theorem gc_X8_does_174_X2_outcome : GoodIn W_X8_does (wsV RX8 174 RX2 yX2_outcome W_X2_outcome) := goodIn_app (goodIn_sub (List.forall_mem_cons.mpr ⟨List.mem_cons_of_mem _ (List.mem_append_left _ (List.mem_of_getElem? (i := 8) rfl)), List.forall_mem_cons.mpr ⟨List.mem_cons_of_mem _ (List.mem_append_left _ (List.mem_of_getElem? (i := 9) rfl)), List.forall_mem_cons.mpr ⟨List.mem_cons_of_mem _ (List.mem_append_left _ (List.mem_of_getElem? (i := 10) rfl)), List.forall_mem_cons.mpr ⟨List.mem_cons_of_mem _ (List.mem_append_left _ (List.mem_of_getElem? (i := 11) rfl)), fun _ h => absurd h List.not_mem_nil⟩⟩⟩⟩) (by decide +kernel)) gw_X8_does_X2_outcome
theorem gw_X8_dropped_X8_isTold : GoodIn W_X8_dropped W_X8_isTold := fun w h => ⟨List.mem_cons_of_mem _ (List.mem_append_right _ (List.mem_append_right _ (List.mem_append_right _ (h)))), (wI_X8_isTold w h).2⟩
theorem gc_X8_dropped_120_X8_isTold : GoodIn W_X8_dropped (wsV RX8 120 RX8 yX8_isTold W_X8_isTold) := goodIn_app (goodIn_sub (List.forall_mem_cons.mpr ⟨List.mem_cons_of_mem _ (List.mem_append_left _ (List.mem_of_getElem? (i := 0) rfl)), List.forall_mem_cons.mpr ⟨List.mem_cons_of_mem _ (List.mem_append_left _ (List.mem_of_getElem? (i := 1) rfl)), List.forall_mem_cons.mpr ⟨List.mem_cons_of_mem _ (List.mem_append_left _ (List.mem_of_getElem? (i := 2) rfl)), List.forall_mem_cons.mpr ⟨List.mem_cons_of_mem _ (List.mem_append_left _ (List.mem_of_getElem? (i := 3) rfl)), fun _ h => absurd h List.not_mem_nil⟩⟩⟩⟩) (by decide +kernel)) gw_X8_dropped_X8_isTold
theorem gw_X8_even_X8_noState : GoodIn W_X8_even W_X8_noState := fun w h => ⟨List.mem_cons_of_mem _ (List.mem_append_right _ (List.mem_append_right _ (List.mem_append_left _ (h)))), (wI_X8_noState w h).2⟩
theorem gc_X8_even_124_X8_noState : GoodIn W_X8_even (wsV RX8 124 RX8 yX8_noState W_X8_noState) := goodIn_app (goodIn_sub (List.forall_mem_cons.mpr ⟨List.mem_cons_of_mem _ (List.mem_append_left _ (List.mem_of_getElem? (i := 0) rfl)), List.forall_mem_cons.mpr ⟨List.mem_cons_of_mem _ (List.mem_append_left _ (List.mem_of_getElem? (i := 1) rfl)), List.forall_mem_cons.mpr ⟨List.mem_cons_of_mem _ (List.mem_append_left _ (List.mem_of_getElem? (i := 2) rfl)), List.forall_mem_cons.mpr ⟨List.mem_cons_of_mem _ (List.mem_append_left _ (List.mem_of_getElem? (i := 3) rfl)), fun _ h => absurd h List.not_mem_nil⟩⟩⟩⟩) (by decide +kernel)) gw_X8_even_X8_noState
theorem gw_X8_even_X2_merged : GoodIn W_X8_even W_X2_merged := fun w h => ⟨List.mem_cons_of_mem _ (List.mem_append_right _ (List.mem_append_right _ (List.mem_append_right _ (h)))), (wI_X2_merged w h).2⟩
theorem gc_X8_even_189_X2_merged : GoodIn W_X8_even (wsV RX8 189 RX2 yX2_merged W_X2_merged) := goodIn_app (goodIn_sub (List.forall_mem_cons.mpr ⟨List.mem_cons_of_mem _ (List.mem_append_left _ (List.mem_of_getElem? (i := 5) rfl)), List.forall_mem_cons.mpr ⟨List.mem_cons_of_mem _ (List.mem_append_left _ (List.mem_of_getElem? (i := 6) rfl)), List.forall_mem_cons.mpr ⟨List.mem_cons_of_mem _ (List.mem_append_left _ (List.mem_of_getElem? (i := 7) rfl)), List.forall_mem_cons.mpr ⟨List.mem_cons_of_mem _ (List.mem_append_left _ (List.mem_of_getElem? (i := 8) rfl)), fun _ h => absurd h List.not_mem_nil⟩⟩⟩⟩) (by decide +kernel)) gw_X8_even_X2_merged
theorem gw_X8_far_X8_noState : GoodIn W_X8_far W_X8_noState := fun w h => ⟨List.mem_cons_of_mem _ (List.mem_append_right _ (List.mem_append_right _ (List.mem_append_left _ (h)))), (wI_X8_noState w h).2⟩
theorem gc_X8_far_124_X8_noState : GoodIn W_X8_far (wsV RX8 124 RX8 yX8_noState W_X8_noState) := goodIn_app (goodIn_sub (List.forall_mem_cons.mpr ⟨List.mem_cons_of_mem _ (List.mem_append_left _ (List.mem_of_getElem? (i := 0) rfl)), List.forall_mem_cons.mpr ⟨List.mem_cons_of_mem _ (List.mem_append_left _ (List.mem_of_getElem? (i := 1) rfl)), List.forall_mem_cons.mpr ⟨List.mem_cons_of_mem _ (List.mem_append_left _ (List.mem_of_getElem? (i := 2) rfl)), List.forall_mem_cons.mpr ⟨List.mem_cons_of_mem _ (List.mem_append_left _ (List.mem_of_getElem? (i := 3) rfl)), fun _ h => absurd h List.not_mem_nil⟩⟩⟩⟩) (by decide +kernel)) gw_X8_far_X8_noState
theorem gw_X8_far_X2_distance : GoodIn W_X8_far W_X2_distance := fun w h => ⟨List.mem_cons_of_mem _ (List.mem_append_right _ (List.mem_append_right _ (List.mem_append_right _ (h)))), (wI_X2_distance w h).2⟩
theorem gc_X8_far_203_X2_distance : GoodIn W_X8_far (wsV RX8 203 RX2 yX2_distance W_X2_distance) := goodIn_app (goodIn_sub (List.forall_mem_cons.mpr ⟨List.mem_cons_of_mem _ (List.mem_append_left _ (List.mem_of_getElem? (i := 5) rfl)), List.forall_mem_cons.mpr ⟨List.mem_cons_of_mem _ (List.mem_append_left _ (List.mem_of_getElem? (i := 6) rfl)), List.forall_mem_cons.mpr ⟨List.mem_cons_of_mem _ (List.mem_append_left _ (List.mem_of_getElem? (i := 7) rfl)), List.forall_mem_cons.mpr ⟨List.mem_cons_of_mem _ (List.mem_append_left _ (List.mem_of_getElem? (i := 8) rfl)), fun _ h => absurd h List.not_mem_nil⟩⟩⟩⟩) (by decide +kernel)) gw_X8_far_X2_distance
theorem gw_X8_feed_X7_put : GoodIn W_X8_feed W_X7_put := fun w h => ⟨List.mem_cons_of_mem _ (List.mem_append_right _ (List.mem_append_right _ (List.mem_append_right _ (h)))), (wI_X7_put w h).2⟩
theorem gc_X8_feed_79_X7_put : GoodIn W_X8_feed (wsV RX8 79 RX7 yX7_put W_X7_put) := goodIn_app (goodIn_sub (List.forall_mem_cons.mpr ⟨List.mem_cons_of_mem _ (List.mem_append_left _ (List.mem_of_getElem? (i := 2) rfl)), List.forall_mem_cons.mpr ⟨List.mem_cons_of_mem _ (List.mem_append_left _ (List.mem_of_getElem? (i := 3) rfl)), List.forall_mem_cons.mpr ⟨List.mem_cons_of_mem _ (List.mem_append_left _ (List.mem_of_getElem? (i := 4) rfl)), List.forall_mem_cons.mpr ⟨List.mem_cons_of_mem _ (List.mem_append_left _ (List.mem_of_getElem? (i := 5) rfl)), fun _ h => absurd h List.not_mem_nil⟩⟩⟩⟩) (by decide +kernel)) gw_X8_feed_X7_put
theorem gw_X8_freely_J13_bitCount_95d88 : GoodIn W_X8_freely W_J13_bitCount_95d88 := fun w h => ⟨List.mem_cons_of_mem _ (List.mem_append_right _ (List.mem_append_right _ (List.mem_append_right _ (List.mem_append_right _ (List.mem_append_right _ (List.mem_append_right _ (List.mem_append_right _ (h)))))))), (wI_J13_bitCount_95d88 w h).2⟩
theorem gc_X8_freely_148_J13_bitCount_95d88 : GoodIn W_X8_freely (va_wsS RX8 148 yJ13_bitCount_95d88 W_J13_bitCount_95d88) := goodIn_app (goodIn_sub (List.forall_mem_cons.mpr ⟨List.mem_cons_of_mem _ (List.mem_append_left _ (List.mem_of_getElem? (i := 17) rfl)), List.forall_mem_cons.mpr ⟨List.mem_cons_of_mem _ (List.mem_append_left _ (List.mem_of_getElem? (i := 18) rfl)), List.forall_mem_cons.mpr ⟨List.mem_cons_of_mem _ (List.mem_append_left _ (List.mem_of_getElem? (i := 19) rfl)), fun _ h => absurd h List.not_mem_nil⟩⟩⟩) (by decide +kernel)) gw_X8_freely_J13_bitCount_95d88
theorem gw_X8_freely_X8_noState : GoodIn W_X8_freely W_X8_noState := fun w h => ⟨List.mem_cons_of_mem _ (List.mem_append_right _ (List.mem_append_right _ (List.mem_append_right _ (List.mem_append_left _ (h))))), (wI_X8_noState w h).2⟩
theorem gc_X8_freely_124_X8_noState : GoodIn W_X8_freely (wsV RX8 124 RX8 yX8_noState W_X8_noState) := goodIn_app (goodIn_sub (List.forall_mem_cons.mpr ⟨List.mem_cons_of_mem _ (List.mem_append_left _ (List.mem_of_getElem? (i := 0) rfl)), List.forall_mem_cons.mpr ⟨List.mem_cons_of_mem _ (List.mem_append_left _ (List.mem_of_getElem? (i := 1) rfl)), List.forall_mem_cons.mpr ⟨List.mem_cons_of_mem _ (List.mem_append_left _ (List.mem_of_getElem? (i := 2) rfl)), List.forall_mem_cons.mpr ⟨List.mem_cons_of_mem _ (List.mem_append_left _ (List.mem_of_getElem? (i := 3) rfl)), fun _ h => absurd h List.not_mem_nil⟩⟩⟩⟩) (by decide +kernel)) gw_X8_freely_X8_noState
theorem gw_X8_freely_X2_isValid : GoodIn W_X8_freely W_X2_isValid := fun w h => ⟨List.mem_cons_of_mem _ (List.mem_append_right _ (List.mem_append_right _ (List.mem_append_right _ (List.mem_append_right _ (List.mem_append_right _ (List.mem_append_left _ (h))))))), (wI_X2_isValid w h).2⟩
theorem gc_X8_freely_141_X2_isValid : GoodIn W_X8_freely (wsV RX8 141 RX2 yX2_isValid W_X2_isValid) := goodIn_app (goodIn_sub (List.forall_mem_cons.mpr ⟨List.mem_cons_of_mem _ (List.mem_append_left _ (List.mem_of_getElem? (i := 8) rfl)), List.forall_mem_cons.mpr ⟨List.mem_cons_of_mem _ (List.mem_append_left _ (List.mem_of_getElem? (i := 9) rfl)), List.forall_mem_cons.mpr ⟨List.mem_cons_of_mem _ (List.mem_append_left _ (List.mem_of_getElem? (i := 10) rfl)), List.forall_mem_cons.mpr ⟨List.mem_cons_of_mem _ (List.mem_append_left _ (List.mem_of_getElem? (i := 11) rfl)), fun _ h => absurd h List.not_mem_nil⟩⟩⟩⟩) (by decide +kernel)) gw_X8_freely_X2_isValid
theorem gw_X8_freely_X8_noDepth : GoodIn W_X8_freely W_X8_noDepth := fun w h => ⟨List.mem_cons_of_mem _ (List.mem_append_right _ (List.mem_append_right _ (List.mem_append_right _ (List.mem_append_right _ (List.mem_append_left _ (h)))))), (wI_X8_noDepth w h).2⟩
theorem gc_X8_freely_196_X8_noDepth : GoodIn W_X8_freely (wsV RX8 196 RX8 yX8_noDepth W_X8_noDepth) := goodIn_app (goodIn_sub (List.forall_mem_cons.mpr ⟨List.mem_cons_of_mem _ (List.mem_append_left _ (List.mem_of_getElem? (i := 4) rfl)), List.forall_mem_cons.mpr ⟨List.mem_cons_of_mem _ (List.mem_append_left _ (List.mem_of_getElem? (i := 5) rfl)), List.forall_mem_cons.mpr ⟨List.mem_cons_of_mem _ (List.mem_append_left _ (List.mem_of_getElem? (i := 6) rfl)), List.forall_mem_cons.mpr ⟨List.mem_cons_of_mem _ (List.mem_append_left _ (List.mem_of_getElem? (i := 3) rfl)), fun _ h => absurd h List.not_mem_nil⟩⟩⟩⟩) (by decide +kernel)) gw_X8_freely_X8_noDepth
theorem gw_X8_freely_X2_spread : GoodIn W_X8_freely W_X2_spread := fun w h => ⟨List.mem_cons_of_mem _ (List.mem_append_right _ (List.mem_append_right _ (List.mem_append_right _ (List.mem_append_right _ (List.mem_append_right _ (List.mem_append_right _ (List.mem_append_left _ (h)))))))), (wI_X2_spread w h).2⟩
theorem gc_X8_freely_199_X2_spread : GoodIn W_X8_freely (wsV RX8 199 RX2 yX2_spread W_X2_spread) := goodIn_app (goodIn_sub (List.forall_mem_cons.mpr ⟨List.mem_cons_of_mem _ (List.mem_append_left _ (List.mem_of_getElem? (i := 14) rfl)), List.forall_mem_cons.mpr ⟨List.mem_cons_of_mem _ (List.mem_append_left _ (List.mem_of_getElem? (i := 15) rfl)), List.forall_mem_cons.mpr ⟨List.mem_cons_of_mem _ (List.mem_append_left _ (List.mem_of_getElem? (i := 16) rfl)), List.forall_mem_cons.mpr ⟨List.mem_cons_of_mem _ (List.mem_append_left _ (List.mem_of_getElem? (i := 11) rfl)), fun _ h => absurd h List.not_mem_nil⟩⟩⟩⟩) (by decide +kernel)) gw_X8_freely_X2_spread
theorem gw_X8_hard_J13_bitCount_95d88 : GoodIn W_X8_hard W_J13_bitCount_95d88 := fun w h => ⟨List.mem_cons_of_mem _ (List.mem_append_right _ (List.mem_append_right _ (List.mem_append_right _ (List.mem_append_right _ (List.mem_append_right _ (h)))))), (wI_J13_bitCount_95d88 w h).2⟩
theorem gc_X8_hard_148_J13_bitCount_95d88 : GoodIn W_X8_hard (va_wsS RX8 148 yJ13_bitCount_95d88 W_J13_bitCount_95d88) := goodIn_app (goodIn_sub (List.forall_mem_cons.mpr ⟨List.mem_cons_of_mem _ (List.mem_append_left _ (List.mem_of_getElem? (i := 8) rfl)), List.forall_mem_cons.mpr ⟨List.mem_cons_of_mem _ (List.mem_append_left _ (List.mem_of_getElem? (i := 9) rfl)), List.forall_mem_cons.mpr ⟨List.mem_cons_of_mem _ (List.mem_append_left _ (List.mem_of_getElem? (i := 10) rfl)), fun _ h => absurd h List.not_mem_nil⟩⟩⟩) (by decide +kernel)) gw_X8_hard_J13_bitCount_95d88
theorem gw_X8_hard_X8_isTold : GoodIn W_X8_hard W_X8_isTold := fun w h => ⟨List.mem_cons_of_mem _ (List.mem_append_right _ (List.mem_append_right _ (List.mem_append_right _ (List.mem_append_right _ (List.mem_append_left _ (h)))))), (wI_X8_isTold w h).2⟩
theorem gc_X8_hard_120_X8_isTold : GoodIn W_X8_hard (wsV RX8 120 RX8 yX8_isTold W_X8_isTold) := goodIn_app (goodIn_sub (List.forall_mem_cons.mpr ⟨List.mem_cons_of_mem _ (List.mem_append_left _ (List.mem_of_getElem? (i := 0) rfl)), List.forall_mem_cons.mpr ⟨List.mem_cons_of_mem _ (List.mem_append_left _ (List.mem_of_getElem? (i := 1) rfl)), List.forall_mem_cons.mpr ⟨List.mem_cons_of_mem _ (List.mem_append_left _ (List.mem_of_getElem? (i := 2) rfl)), List.forall_mem_cons.mpr ⟨List.mem_cons_of_mem _ (List.mem_append_left _ (List.mem_of_getElem? (i := 3) rfl)), fun _ h => absurd h List.not_mem_nil⟩⟩⟩⟩) (by decide +kernel)) gw_X8_hard_X8_isTold
theorem gw_X8_holds_X8_noRule : GoodIn W_X8_holds W_X8_noRule := fun w h => ⟨List.mem_cons_of_mem _ (List.mem_append_right _ (List.mem_append_right _ (List.mem_append_left _ (h)))), (wI_X8_noRule w h).2⟩
theorem gc_X8_holds_108_X8_noRule : GoodIn W_X8_holds (wsV RX8 108 RX8 yX8_noRule W_X8_noRule) := goodIn_app (goodIn_sub (List.forall_mem_cons.mpr ⟨List.mem_cons_of_mem _ (List.mem_append_left _ (List.mem_of_getElem? (i := 0) rfl)), List.forall_mem_cons.mpr ⟨List.mem_cons_of_mem _ (List.mem_append_left _ (List.mem_of_getElem? (i := 1) rfl)), List.forall_mem_cons.mpr ⟨List.mem_cons_of_mem _ (List.mem_append_left _ (List.mem_of_getElem? (i := 2) rfl)), List.forall_mem_cons.mpr ⟨List.mem_cons_of_mem _ (List.mem_append_left _ (List.mem_of_getElem? (i := 3) rfl)), fun _ h => absurd h List.not_mem_nil⟩⟩⟩⟩) (by decide +kernel)) gw_X8_holds_X8_noRule
theorem gw_X8_holds_X8_noState : GoodIn W_X8_holds W_X8_noState := fun w h => ⟨List.mem_cons_of_mem _ (List.mem_append_right _ (List.mem_append_right _ (List.mem_append_right _ (List.mem_append_left _ (h))))), (wI_X8_noState w h).2⟩
theorem gc_X8_holds_124_X8_noState : GoodIn W_X8_holds (wsV RX8 124 RX8 yX8_noState W_X8_noState) := goodIn_app (goodIn_sub (List.forall_mem_cons.mpr ⟨List.mem_cons_of_mem _ (List.mem_append_left _ (List.mem_of_getElem? (i := 4) rfl)), List.forall_mem_cons.mpr ⟨List.mem_cons_of_mem _ (List.mem_append_left _ (List.mem_of_getElem? (i := 5) rfl)), List.forall_mem_cons.mpr ⟨List.mem_cons_of_mem _ (List.mem_append_left _ (List.mem_of_getElem? (i := 6) rfl)), List.forall_mem_cons.mpr ⟨List.mem_cons_of_mem _ (List.mem_append_left _ (List.mem_of_getElem? (i := 3) rfl)), fun _ h => absurd h List.not_mem_nil⟩⟩⟩⟩) (by decide +kernel)) gw_X8_holds_X8_noState
theorem gw_X8_holds_X6_keeps : GoodIn W_X8_holds W_X6_keeps := fun w h => ⟨List.mem_cons_of_mem _ (List.mem_append_right _ (List.mem_append_right _ (List.mem_append_right _ (List.mem_append_right _ (h))))), (wI_X6_keeps w h).2⟩
theorem gc_X8_holds_131_X6_keeps : GoodIn W_X8_holds (wsV RX8 131 RX6 yX6_keeps W_X6_keeps) := goodIn_app (goodIn_sub (List.forall_mem_cons.mpr ⟨List.mem_cons_of_mem _ (List.mem_append_left _ (List.mem_of_getElem? (i := 8) rfl)), List.forall_mem_cons.mpr ⟨List.mem_cons_of_mem _ (List.mem_append_left _ (List.mem_of_getElem? (i := 9) rfl)), List.forall_mem_cons.mpr ⟨List.mem_cons_of_mem _ (List.mem_append_left _ (List.mem_of_getElem? (i := 10) rfl)), List.forall_mem_cons.mpr ⟨List.mem_cons_of_mem _ (List.mem_append_left _ (List.mem_of_getElem? (i := 11) rfl)), fun _ h => absurd h List.not_mem_nil⟩⟩⟩⟩) (by decide +kernel)) gw_X8_holds_X6_keeps
theorem gw_X8_locked_X8_isTold : GoodIn W_X8_locked W_X8_isTold := fun w h => ⟨List.mem_cons_of_mem _ (List.mem_append_right _ (List.mem_append_right _ (List.mem_append_right _ (h)))), (wI_X8_isTold w h).2⟩
theorem gc_X8_locked_120_X8_isTold : GoodIn W_X8_locked (wsV RX8 120 RX8 yX8_isTold W_X8_isTold) := goodIn_app (goodIn_sub (List.forall_mem_cons.mpr ⟨List.mem_cons_of_mem _ (List.mem_append_left _ (List.mem_of_getElem? (i := 0) rfl)), List.forall_mem_cons.mpr ⟨List.mem_cons_of_mem _ (List.mem_append_left _ (List.mem_of_getElem? (i := 1) rfl)), List.forall_mem_cons.mpr ⟨List.mem_cons_of_mem _ (List.mem_append_left _ (List.mem_of_getElem? (i := 2) rfl)), List.forall_mem_cons.mpr ⟨List.mem_cons_of_mem _ (List.mem_append_left _ (List.mem_of_getElem? (i := 3) rfl)), fun _ h => absurd h List.not_mem_nil⟩⟩⟩⟩) (by decide +kernel)) gw_X8_locked_X8_isTold
theorem gw_X8_merge_X8_noState : GoodIn W_X8_merge W_X8_noState := fun w h => ⟨List.mem_cons_of_mem _ (List.mem_append_right _ (List.mem_append_right _ (List.mem_append_left _ (h)))), (wI_X8_noState w h).2⟩
theorem gc_X8_merge_124_X8_noState : GoodIn W_X8_merge (wsV RX8 124 RX8 yX8_noState W_X8_noState) := goodIn_app (goodIn_sub (List.forall_mem_cons.mpr ⟨List.mem_cons_of_mem _ (List.mem_append_left _ (List.mem_of_getElem? (i := 0) rfl)), List.forall_mem_cons.mpr ⟨List.mem_cons_of_mem _ (List.mem_append_left _ (List.mem_of_getElem? (i := 1) rfl)), List.forall_mem_cons.mpr ⟨List.mem_cons_of_mem _ (List.mem_append_left _ (List.mem_of_getElem? (i := 2) rfl)), List.forall_mem_cons.mpr ⟨List.mem_cons_of_mem _ (List.mem_append_left _ (List.mem_of_getElem? (i := 3) rfl)), fun _ h => absurd h List.not_mem_nil⟩⟩⟩⟩) (by decide +kernel)) gw_X8_merge_X8_noState
theorem gw_X8_merge_X2_merged : GoodIn W_X8_merge W_X2_merged := fun w h => ⟨List.mem_cons_of_mem _ (List.mem_append_right _ (List.mem_append_right _ (List.mem_append_right _ (h)))), (wI_X2_merged w h).2⟩
theorem gc_X8_merge_189_X2_merged : GoodIn W_X8_merge (wsV RX8 189 RX2 yX2_merged W_X2_merged) := goodIn_app (goodIn_sub (List.forall_mem_cons.mpr ⟨List.mem_cons_of_mem _ (List.mem_append_left _ (List.mem_of_getElem? (i := 5) rfl)), List.forall_mem_cons.mpr ⟨List.mem_cons_of_mem _ (List.mem_append_left _ (List.mem_of_getElem? (i := 6) rfl)), List.forall_mem_cons.mpr ⟨List.mem_cons_of_mem _ (List.mem_append_left _ (List.mem_of_getElem? (i := 7) rfl)), List.forall_mem_cons.mpr ⟨List.mem_cons_of_mem _ (List.mem_append_left _ (List.mem_of_getElem? (i := 8) rfl)), fun _ h => absurd h List.not_mem_nil⟩⟩⟩⟩) (by decide +kernel)) gw_X8_merge_X2_merged
theorem gw_X8_nearest_X8_noState : GoodIn W_X8_nearest W_X8_noState := fun w h => ⟨List.mem_cons_of_mem _ (List.mem_append_right _ (List.mem_append_right _ (List.mem_append_right _ (List.mem_append_left _ (h))))), (wI_X8_noState w h).2⟩
theorem gc_X8_nearest_124_X8_noState : GoodIn W_X8_nearest (wsV RX8 124 RX8 yX8_noState W_X8_noState) := goodIn_app (goodIn_sub (List.forall_mem_cons.mpr ⟨List.mem_cons_of_mem _ (List.mem_append_left _ (List.mem_of_getElem? (i := 0) rfl)), List.forall_mem_cons.mpr ⟨List.mem_cons_of_mem _ (List.mem_append_left _ (List.mem_of_getElem? (i := 1) rfl)), List.forall_mem_cons.mpr ⟨List.mem_cons_of_mem _ (List.mem_append_left _ (List.mem_of_getElem? (i := 2) rfl)), List.forall_mem_cons.mpr ⟨List.mem_cons_of_mem _ (List.mem_append_left _ (List.mem_of_getElem? (i := 3) rfl)), fun _ h => absurd h List.not_mem_nil⟩⟩⟩⟩) (by decide +kernel)) gw_X8_nearest_X8_noState
theorem gw_X8_nearest_X2_isValid : GoodIn W_X8_nearest W_X2_isValid := fun w h => ⟨List.mem_cons_of_mem _ (List.mem_append_right _ (List.mem_append_right _ (List.mem_append_right _ (List.mem_append_right _ (List.mem_append_right _ (h)))))), (wI_X2_isValid w h).2⟩
theorem gc_X8_nearest_141_X2_isValid : GoodIn W_X8_nearest (wsV RX8 141 RX2 yX2_isValid W_X2_isValid) := goodIn_app (goodIn_sub (List.forall_mem_cons.mpr ⟨List.mem_cons_of_mem _ (List.mem_append_left _ (List.mem_of_getElem? (i := 11) rfl)), List.forall_mem_cons.mpr ⟨List.mem_cons_of_mem _ (List.mem_append_left _ (List.mem_of_getElem? (i := 12) rfl)), List.forall_mem_cons.mpr ⟨List.mem_cons_of_mem _ (List.mem_append_left _ (List.mem_of_getElem? (i := 13) rfl)), List.forall_mem_cons.mpr ⟨List.mem_cons_of_mem _ (List.mem_append_left _ (List.mem_of_getElem? (i := 14) rfl)), fun _ h => absurd h List.not_mem_nil⟩⟩⟩⟩) (by decide +kernel)) gw_X8_nearest_X2_isValid
theorem gw_X8_nearest_X6_cellsApart : GoodIn W_X8_nearest W_X6_cellsApart := fun w h => ⟨List.mem_cons_of_mem _ (List.mem_append_right _ (List.mem_append_right _ (List.mem_append_right _ (List.mem_append_right _ (List.mem_append_left _ (h)))))), (wI_X6_cellsApart w h).2⟩
theorem gc_X8_nearest_161_X6_cellsApart : GoodIn W_X8_nearest (wsV RX8 161 RX6 yX6_cellsApart W_X6_cellsApart) := goodIn_app (goodIn_sub (List.forall_mem_cons.mpr ⟨List.mem_cons_of_mem _ (List.mem_append_left _ (List.mem_of_getElem? (i := 6) rfl)), List.forall_mem_cons.mpr ⟨List.mem_cons_of_mem _ (List.mem_append_left _ (List.mem_of_getElem? (i := 7) rfl)), List.forall_mem_cons.mpr ⟨List.mem_cons_of_mem _ (List.mem_append_left _ (List.mem_of_getElem? (i := 8) rfl)), List.forall_mem_cons.mpr ⟨List.mem_cons_of_mem _ (List.mem_append_left _ (List.mem_of_getElem? (i := 9) rfl)), fun _ h => absurd h List.not_mem_nil⟩⟩⟩⟩) (by decide +kernel)) gw_X8_nearest_X6_cellsApart
theorem gw_X8_noDepth_X8_isTold : GoodIn W_X8_noDepth W_X8_isTold := fun w h => ⟨List.mem_cons_of_mem _ (List.mem_append_right _ (h)), (wI_X8_isTold w h).2⟩
theorem gc_X8_noDepth_120_X8_isTold : GoodIn W_X8_noDepth (wsV RX8 120 RX8 yX8_isTold W_X8_isTold) := goodIn_app (goodIn_sub (List.forall_mem_cons.mpr ⟨List.mem_cons_of_mem _ (List.mem_append_left _ (List.mem_of_getElem? (i := 0) rfl)), List.forall_mem_cons.mpr ⟨List.mem_cons_of_mem _ (List.mem_append_left _ (List.mem_of_getElem? (i := 1) rfl)), List.forall_mem_cons.mpr ⟨List.mem_cons_of_mem _ (List.mem_append_left _ (List.mem_of_getElem? (i := 2) rfl)), List.forall_mem_cons.mpr ⟨List.mem_cons_of_mem _ (List.mem_append_left _ (List.mem_of_getElem? (i := 3) rfl)), fun _ h => absurd h List.not_mem_nil⟩⟩⟩⟩) (by decide +kernel)) gw_X8_noDepth_X8_isTold
theorem gw_X8_noGame_X8_noOp : GoodIn W_X8_noGame W_X8_noOp := fun w h => ⟨List.mem_cons_of_mem _ (List.mem_append_right _ (h)), (wI_X8_noOp w h).2⟩
theorem gc_X8_noGame_114_X8_noOp : GoodIn W_X8_noGame (wsV RX8 114 RX8 yX8_noOp W_X8_noOp) := goodIn_app (goodIn_sub (List.forall_mem_cons.mpr ⟨List.mem_cons_of_mem _ (List.mem_append_left _ (List.mem_of_getElem? (i := 0) rfl)), List.forall_mem_cons.mpr ⟨List.mem_cons_of_mem _ (List.mem_append_left _ (List.mem_of_getElem? (i := 1) rfl)), List.forall_mem_cons.mpr ⟨List.mem_cons_of_mem _ (List.mem_append_left _ (List.mem_of_getElem? (i := 2) rfl)), List.forall_mem_cons.mpr ⟨List.mem_cons_of_mem _ (List.mem_append_left _ (List.mem_of_getElem? (i := 3) rfl)), fun _ h => absurd h List.not_mem_nil⟩⟩⟩⟩) (by decide +kernel)) gw_X8_noGame_X8_noOp
theorem gw_X8_op_X8_noOp : GoodIn W_X8_op W_X8_noOp := fun w h => ⟨List.mem_cons_of_mem _ (List.mem_append_right _ (List.mem_append_right _ (List.mem_append_right _ (h)))), (wI_X8_noOp w h).2⟩
theorem gc_X8_op_114_X8_noOp : GoodIn W_X8_op (wsV RX8 114 RX8 yX8_noOp W_X8_noOp) := goodIn_app (goodIn_sub (List.forall_mem_cons.mpr ⟨List.mem_cons_of_mem _ (List.mem_append_left _ (List.mem_of_getElem? (i := 0) rfl)), List.forall_mem_cons.mpr ⟨List.mem_cons_of_mem _ (List.mem_append_left _ (List.mem_of_getElem? (i := 1) rfl)), List.forall_mem_cons.mpr ⟨List.mem_cons_of_mem _ (List.mem_append_left _ (List.mem_of_getElem? (i := 2) rfl)), List.forall_mem_cons.mpr ⟨List.mem_cons_of_mem _ (List.mem_append_left _ (List.mem_of_getElem? (i := 3) rfl)), fun _ h => absurd h List.not_mem_nil⟩⟩⟩⟩) (by decide +kernel)) gw_X8_op_X8_noOp
theorem gw_X8_opens_X8_noState : GoodIn W_X8_opens W_X8_noState := fun w h => ⟨List.mem_cons_of_mem _ (List.mem_append_right _ (List.mem_append_right _ (List.mem_append_left _ (h)))), (wI_X8_noState w h).2⟩
theorem gc_X8_opens_124_X8_noState : GoodIn W_X8_opens (wsV RX8 124 RX8 yX8_noState W_X8_noState) := goodIn_app (goodIn_sub (List.forall_mem_cons.mpr ⟨List.mem_cons_of_mem _ (List.mem_append_left _ (List.mem_of_getElem? (i := 0) rfl)), List.forall_mem_cons.mpr ⟨List.mem_cons_of_mem _ (List.mem_append_left _ (List.mem_of_getElem? (i := 1) rfl)), List.forall_mem_cons.mpr ⟨List.mem_cons_of_mem _ (List.mem_append_left _ (List.mem_of_getElem? (i := 2) rfl)), List.forall_mem_cons.mpr ⟨List.mem_cons_of_mem _ (List.mem_append_left _ (List.mem_of_getElem? (i := 3) rfl)), fun _ h => absurd h List.not_mem_nil⟩⟩⟩⟩) (by decide +kernel)) gw_X8_opens_X8_noState
theorem gw_X8_opens_X2_openOps : GoodIn W_X8_opens W_X2_openOps := fun w h => ⟨List.mem_cons_of_mem _ (List.mem_append_right _ (List.mem_append_right _ (List.mem_append_right _ (h)))), (wI_X2_openOps w h).2⟩
theorem gc_X8_opens_186_X2_openOps : GoodIn W_X8_opens (wsV RX8 186 RX2 yX2_openOps W_X2_openOps) := goodIn_app (goodIn_sub (List.forall_mem_cons.mpr ⟨List.mem_cons_of_mem _ (List.mem_append_left _ (List.mem_of_getElem? (i := 5) rfl)), List.forall_mem_cons.mpr ⟨List.mem_cons_of_mem _ (List.mem_append_left _ (List.mem_of_getElem? (i := 6) rfl)), List.forall_mem_cons.mpr ⟨List.mem_cons_of_mem _ (List.mem_append_left _ (List.mem_of_getElem? (i := 7) rfl)), List.forall_mem_cons.mpr ⟨List.mem_cons_of_mem _ (List.mem_append_left _ (List.mem_of_getElem? (i := 8) rfl)), fun _ h => absurd h List.not_mem_nil⟩⟩⟩⟩) (by decide +kernel)) gw_X8_opens_X2_openOps
theorem gw_X8_reach_J13_bitCount_95d88 : GoodIn W_X8_reach W_J13_bitCount_95d88 := fun w h => ⟨List.mem_cons_of_mem _ (List.mem_append_right _ (List.mem_append_right _ (List.mem_append_right _ (List.mem_append_right _ (List.mem_append_right _ (List.mem_append_right _ (h))))))), (wI_J13_bitCount_95d88 w h).2⟩
theorem gc_X8_reach_148_J13_bitCount_95d88 : GoodIn W_X8_reach (va_wsS RX8 148 yJ13_bitCount_95d88 W_J13_bitCount_95d88) := goodIn_app (goodIn_sub (List.forall_mem_cons.mpr ⟨List.mem_cons_of_mem _ (List.mem_append_left _ (List.mem_of_getElem? (i := 15) rfl)), List.forall_mem_cons.mpr ⟨List.mem_cons_of_mem _ (List.mem_append_left _ (List.mem_of_getElem? (i := 16) rfl)), List.forall_mem_cons.mpr ⟨List.mem_cons_of_mem _ (List.mem_append_left _ (List.mem_of_getElem? (i := 17) rfl)), fun _ h => absurd h List.not_mem_nil⟩⟩⟩) (by decide +kernel)) gw_X8_reach_J13_bitCount_95d88
theorem gw_X8_reach_X8_noState : GoodIn W_X8_reach W_X8_noState := fun w h => ⟨List.mem_cons_of_mem _ (List.mem_append_right _ (List.mem_append_right _ (List.mem_append_left _ (h)))), (wI_X8_noState w h).2⟩
theorem gc_X8_reach_124_X8_noState : GoodIn W_X8_reach (wsV RX8 124 RX8 yX8_noState W_X8_noState) := goodIn_app (goodIn_sub (List.forall_mem_cons.mpr ⟨List.mem_cons_of_mem _ (List.mem_append_left _ (List.mem_of_getElem? (i := 0) rfl)), List.forall_mem_cons.mpr ⟨List.mem_cons_of_mem _ (List.mem_append_left _ (List.mem_of_getElem? (i := 1) rfl)), List.forall_mem_cons.mpr ⟨List.mem_cons_of_mem _ (List.mem_append_left _ (List.mem_of_getElem? (i := 2) rfl)), List.forall_mem_cons.mpr ⟨List.mem_cons_of_mem _ (List.mem_append_left _ (List.mem_of_getElem? (i := 3) rfl)), fun _ h => absurd h List.not_mem_nil⟩⟩⟩⟩) (by decide +kernel)) gw_X8_reach_X8_noState
theorem gw_X8_reach_X2_isValid : GoodIn W_X8_reach W_X2_isValid := fun w h => ⟨List.mem_cons_of_mem _ (List.mem_append_right _ (List.mem_append_right _ (List.mem_append_right _ (List.mem_append_right _ (List.mem_append_left _ (h)))))), (wI_X2_isValid w h).2⟩
theorem gc_X8_reach_141_X2_isValid : GoodIn W_X8_reach (wsV RX8 141 RX2 yX2_isValid W_X2_isValid) := goodIn_app (goodIn_sub (List.forall_mem_cons.mpr ⟨List.mem_cons_of_mem _ (List.mem_append_left _ (List.mem_of_getElem? (i := 8) rfl)), List.forall_mem_cons.mpr ⟨List.mem_cons_of_mem _ (List.mem_append_left _ (List.mem_of_getElem? (i := 9) rfl)), List.forall_mem_cons.mpr ⟨List.mem_cons_of_mem _ (List.mem_append_left _ (List.mem_of_getElem? (i := 10) rfl)), List.forall_mem_cons.mpr ⟨List.mem_cons_of_mem _ (List.mem_append_left _ (List.mem_of_getElem? (i := 11) rfl)), fun _ h => absurd h List.not_mem_nil⟩⟩⟩⟩) (by decide +kernel)) gw_X8_reach_X2_isValid
theorem gw_X8_reach_X8_noDepth : GoodIn W_X8_reach W_X8_noDepth := fun w h => ⟨List.mem_cons_of_mem _ (List.mem_append_right _ (List.mem_append_right _ (List.mem_append_right _ (List.mem_append_left _ (h))))), (wI_X8_noDepth w h).2⟩
theorem gc_X8_reach_196_X8_noDepth : GoodIn W_X8_reach (wsV RX8 196 RX8 yX8_noDepth W_X8_noDepth) := goodIn_app (goodIn_sub (List.forall_mem_cons.mpr ⟨List.mem_cons_of_mem _ (List.mem_append_left _ (List.mem_of_getElem? (i := 4) rfl)), List.forall_mem_cons.mpr ⟨List.mem_cons_of_mem _ (List.mem_append_left _ (List.mem_of_getElem? (i := 5) rfl)), List.forall_mem_cons.mpr ⟨List.mem_cons_of_mem _ (List.mem_append_left _ (List.mem_of_getElem? (i := 6) rfl)), List.forall_mem_cons.mpr ⟨List.mem_cons_of_mem _ (List.mem_append_left _ (List.mem_of_getElem? (i := 3) rfl)), fun _ h => absurd h List.not_mem_nil⟩⟩⟩⟩) (by decide +kernel)) gw_X8_reach_X8_noDepth
theorem gw_X8_reach_X2_spread : GoodIn W_X8_reach W_X2_spread := fun w h => ⟨List.mem_cons_of_mem _ (List.mem_append_right _ (List.mem_append_right _ (List.mem_append_right _ (List.mem_append_right _ (List.mem_append_right _ (List.mem_append_left _ (h))))))), (wI_X2_spread w h).2⟩
theorem gc_X8_reach_199_X2_spread : GoodIn W_X8_reach (wsV RX8 199 RX2 yX2_spread W_X2_spread) := goodIn_app (goodIn_sub (List.forall_mem_cons.mpr ⟨List.mem_cons_of_mem _ (List.mem_append_left _ (List.mem_of_getElem? (i := 12) rfl)), List.forall_mem_cons.mpr ⟨List.mem_cons_of_mem _ (List.mem_append_left _ (List.mem_of_getElem? (i := 13) rfl)), List.forall_mem_cons.mpr ⟨List.mem_cons_of_mem _ (List.mem_append_left _ (List.mem_of_getElem? (i := 14) rfl)), List.forall_mem_cons.mpr ⟨List.mem_cons_of_mem _ (List.mem_append_left _ (List.mem_of_getElem? (i := 11) rfl)), fun _ h => absurd h List.not_mem_nil⟩⟩⟩⟩) (by decide +kernel)) gw_X8_reach_X2_spread
theorem gw_X8_room_X8_noCell : GoodIn W_X8_room W_X8_noCell := fun w h => ⟨List.mem_cons_of_mem _ (List.mem_append_right _ (List.mem_append_right _ (List.mem_append_right _ (List.mem_append_left _ (h))))), (wI_X8_noCell w h).2⟩
theorem gc_X8_room_100_X8_noCell : GoodIn W_X8_room (wsV RX8 100 RX8 yX8_noCell W_X8_noCell) := goodIn_app (goodIn_sub (List.forall_mem_cons.mpr ⟨List.mem_cons_of_mem _ (List.mem_append_left _ (List.mem_of_getElem? (i := 0) rfl)), List.forall_mem_cons.mpr ⟨List.mem_cons_of_mem _ (List.mem_append_left _ (List.mem_of_getElem? (i := 1) rfl)), List.forall_mem_cons.mpr ⟨List.mem_cons_of_mem _ (List.mem_append_left _ (List.mem_of_getElem? (i := 2) rfl)), List.forall_mem_cons.mpr ⟨List.mem_cons_of_mem _ (List.mem_append_left _ (List.mem_of_getElem? (i := 3) rfl)), fun _ h => absurd h List.not_mem_nil⟩⟩⟩⟩) (by decide +kernel)) gw_X8_room_X8_noCell
theorem gw_X8_room_X6_digit : GoodIn W_X8_room W_X6_digit := fun w h => ⟨List.mem_cons_of_mem _ (List.mem_append_right _ (List.mem_append_right _ (List.mem_append_right _ (List.mem_append_right _ (List.mem_append_right _ (h)))))), (wI_X6_digit w h).2⟩
theorem gc_X8_room_127_X6_digit : GoodIn W_X8_room (wsV RX8 127 RX6 yX6_digit W_X6_digit) := goodIn_app (goodIn_sub (List.forall_mem_cons.mpr ⟨List.mem_cons_of_mem _ (List.mem_append_left _ (List.mem_of_getElem? (i := 11) rfl)), List.forall_mem_cons.mpr ⟨List.mem_cons_of_mem _ (List.mem_append_left _ (List.mem_of_getElem? (i := 12) rfl)), List.forall_mem_cons.mpr ⟨List.mem_cons_of_mem _ (List.mem_append_left _ (List.mem_of_getElem? (i := 13) rfl)), List.forall_mem_cons.mpr ⟨List.mem_cons_of_mem _ (List.mem_append_left _ (List.mem_of_getElem? (i := 14) rfl)), fun _ h => absurd h List.not_mem_nil⟩⟩⟩⟩) (by decide +kernel)) gw_X8_room_X6_digit
theorem gw_X8_room_X2_isValid : GoodIn W_X8_room W_X2_isValid := fun w h => ⟨List.mem_cons_of_mem _ (List.mem_append_right _ (List.mem_append_right _ (List.mem_append_right _ (List.mem_append_right _ (List.mem_append_left _ (h)))))), (wI_X2_isValid w h).2⟩
theorem gc_X8_room_141_X2_isValid : GoodIn W_X8_room (wsV RX8 141 RX2 yX2_isValid W_X2_isValid) := goodIn_app (goodIn_sub (List.forall_mem_cons.mpr ⟨List.mem_cons_of_mem _ (List.mem_append_left _ (List.mem_of_getElem? (i := 7) rfl)), List.forall_mem_cons.mpr ⟨List.mem_cons_of_mem _ (List.mem_append_left _ (List.mem_of_getElem? (i := 8) rfl)), List.forall_mem_cons.mpr ⟨List.mem_cons_of_mem _ (List.mem_append_left _ (List.mem_of_getElem? (i := 9) rfl)), List.forall_mem_cons.mpr ⟨List.mem_cons_of_mem _ (List.mem_append_left _ (List.mem_of_getElem? (i := 10) rfl)), fun _ h => absurd h List.not_mem_nil⟩⟩⟩⟩) (by decide +kernel)) gw_X8_room_X2_isValid
theorem gw_X8_rule_X8_noRule : GoodIn W_X8_rule W_X8_noRule := fun w h => ⟨List.mem_cons_of_mem _ (List.mem_append_right _ (List.mem_append_right _ (List.mem_append_right _ (h)))), (wI_X8_noRule w h).2⟩
theorem gc_X8_rule_108_X8_noRule : GoodIn W_X8_rule (wsV RX8 108 RX8 yX8_noRule W_X8_noRule) := goodIn_app (goodIn_sub (List.forall_mem_cons.mpr ⟨List.mem_cons_of_mem _ (List.mem_append_left _ (List.mem_of_getElem? (i := 0) rfl)), List.forall_mem_cons.mpr ⟨List.mem_cons_of_mem _ (List.mem_append_left _ (List.mem_of_getElem? (i := 1) rfl)), List.forall_mem_cons.mpr ⟨List.mem_cons_of_mem _ (List.mem_append_left _ (List.mem_of_getElem? (i := 2) rfl)), List.forall_mem_cons.mpr ⟨List.mem_cons_of_mem _ (List.mem_append_left _ (List.mem_of_getElem? (i := 3) rfl)), fun _ h => absurd h List.not_mem_nil⟩⟩⟩⟩) (by decide +kernel)) gw_X8_rule_X8_noRule
theorem gw_X8_spare_J13_bitCount_95d88 : GoodIn W_X8_spare W_J13_bitCount_95d88 := fun w h => ⟨List.mem_cons_of_mem _ (List.mem_append_right _ (List.mem_append_right _ (List.mem_append_right _ (List.mem_append_right _ (List.mem_append_right _ (List.mem_append_right _ (h))))))), (wI_J13_bitCount_95d88 w h).2⟩
theorem gc_X8_spare_148_J13_bitCount_95d88 : GoodIn W_X8_spare (va_wsS RX8 148 yJ13_bitCount_95d88 W_J13_bitCount_95d88) := goodIn_app (goodIn_sub (List.forall_mem_cons.mpr ⟨List.mem_cons_of_mem _ (List.mem_append_left _ (List.mem_of_getElem? (i := 12) rfl)), List.forall_mem_cons.mpr ⟨List.mem_cons_of_mem _ (List.mem_append_left _ (List.mem_of_getElem? (i := 13) rfl)), List.forall_mem_cons.mpr ⟨List.mem_cons_of_mem _ (List.mem_append_left _ (List.mem_of_getElem? (i := 14) rfl)), fun _ h => absurd h List.not_mem_nil⟩⟩⟩) (by decide +kernel)) gw_X8_spare_J13_bitCount_95d88
theorem gw_X8_spare_X8_noRule : GoodIn W_X8_spare W_X8_noRule := fun w h => ⟨List.mem_cons_of_mem _ (List.mem_append_right _ (List.mem_append_right _ (List.mem_append_right _ (List.mem_append_right _ (List.mem_append_left _ (h)))))), (wI_X8_noRule w h).2⟩
theorem gc_X8_spare_108_X8_noRule : GoodIn W_X8_spare (wsV RX8 108 RX8 yX8_noRule W_X8_noRule) := goodIn_app (goodIn_sub (List.forall_mem_cons.mpr ⟨List.mem_cons_of_mem _ (List.mem_append_left _ (List.mem_of_getElem? (i := 0) rfl)), List.forall_mem_cons.mpr ⟨List.mem_cons_of_mem _ (List.mem_append_left _ (List.mem_of_getElem? (i := 1) rfl)), List.forall_mem_cons.mpr ⟨List.mem_cons_of_mem _ (List.mem_append_left _ (List.mem_of_getElem? (i := 2) rfl)), List.forall_mem_cons.mpr ⟨List.mem_cons_of_mem _ (List.mem_append_left _ (List.mem_of_getElem? (i := 3) rfl)), fun _ h => absurd h List.not_mem_nil⟩⟩⟩⟩) (by decide +kernel)) gw_X8_spare_X8_noRule
theorem gw_X8_spare_X2_validsWith : GoodIn W_X8_spare W_X2_validsWith := fun w h => ⟨List.mem_cons_of_mem _ (List.mem_append_right _ (List.mem_append_right _ (List.mem_append_right _ (List.mem_append_right _ (List.mem_append_right _ (List.mem_append_left _ (h))))))), (wI_X2_validsWith w h).2⟩
theorem gc_X8_spare_171_X2_validsWith : GoodIn W_X8_spare (wsV RX8 171 RX2 yX2_validsWith W_X2_validsWith) := goodIn_app (goodIn_sub (List.forall_mem_cons.mpr ⟨List.mem_cons_of_mem _ (List.mem_append_left _ (List.mem_of_getElem? (i := 7) rfl)), List.forall_mem_cons.mpr ⟨List.mem_cons_of_mem _ (List.mem_append_left _ (List.mem_of_getElem? (i := 8) rfl)), List.forall_mem_cons.mpr ⟨List.mem_cons_of_mem _ (List.mem_append_left _ (List.mem_of_getElem? (i := 9) rfl)), List.forall_mem_cons.mpr ⟨List.mem_cons_of_mem _ (List.mem_append_left _ (List.mem_of_getElem? (i := 10) rfl)), fun _ h => absurd h List.not_mem_nil⟩⟩⟩⟩) (by decide +kernel)) gw_X8_spare_X2_validsWith
theorem gw_X8_states_X8_isTold : GoodIn W_X8_states W_X8_isTold := fun w h => ⟨List.mem_cons_of_mem _ (List.mem_append_right _ (List.mem_append_right _ (List.mem_append_right _ (h)))), (wI_X8_isTold w h).2⟩
theorem gc_X8_states_120_X8_isTold : GoodIn W_X8_states (wsV RX8 120 RX8 yX8_isTold W_X8_isTold) := goodIn_app (goodIn_sub (List.forall_mem_cons.mpr ⟨List.mem_cons_of_mem _ (List.mem_append_left _ (List.mem_of_getElem? (i := 0) rfl)), List.forall_mem_cons.mpr ⟨List.mem_cons_of_mem _ (List.mem_append_left _ (List.mem_of_getElem? (i := 1) rfl)), List.forall_mem_cons.mpr ⟨List.mem_cons_of_mem _ (List.mem_append_left _ (List.mem_of_getElem? (i := 2) rfl)), List.forall_mem_cons.mpr ⟨List.mem_cons_of_mem _ (List.mem_append_left _ (List.mem_of_getElem? (i := 3) rfl)), fun _ h => absurd h List.not_mem_nil⟩⟩⟩⟩) (by decide +kernel)) gw_X8_states_X8_isTold
theorem gw_X8_step_X8_noState : GoodIn W_X8_step W_X8_noState := fun w h => ⟨List.mem_cons_of_mem _ (List.mem_append_right _ (List.mem_append_right _ (List.mem_append_left _ (h)))), (wI_X8_noState w h).2⟩
theorem gc_X8_step_124_X8_noState : GoodIn W_X8_step (wsV RX8 124 RX8 yX8_noState W_X8_noState) := goodIn_app (goodIn_sub (List.forall_mem_cons.mpr ⟨List.mem_cons_of_mem _ (List.mem_append_left _ (List.mem_of_getElem? (i := 0) rfl)), List.forall_mem_cons.mpr ⟨List.mem_cons_of_mem _ (List.mem_append_left _ (List.mem_of_getElem? (i := 1) rfl)), List.forall_mem_cons.mpr ⟨List.mem_cons_of_mem _ (List.mem_append_left _ (List.mem_of_getElem? (i := 2) rfl)), List.forall_mem_cons.mpr ⟨List.mem_cons_of_mem _ (List.mem_append_left _ (List.mem_of_getElem? (i := 3) rfl)), fun _ h => absurd h List.not_mem_nil⟩⟩⟩⟩) (by decide +kernel)) gw_X8_step_X8_noState
theorem gw_X8_step_X2_firstStep : GoodIn W_X8_step W_X2_firstStep := fun w h => ⟨List.mem_cons_of_mem _ (List.mem_append_right _ (List.mem_append_right _ (List.mem_append_right _ (h)))), (wI_X2_firstStep w h).2⟩
theorem gc_X8_step_206_X2_firstStep : GoodIn W_X8_step (wsV RX8 206 RX2 yX2_firstStep W_X2_firstStep) := goodIn_app (goodIn_sub (List.forall_mem_cons.mpr ⟨List.mem_cons_of_mem _ (List.mem_append_left _ (List.mem_of_getElem? (i := 5) rfl)), List.forall_mem_cons.mpr ⟨List.mem_cons_of_mem _ (List.mem_append_left _ (List.mem_of_getElem? (i := 6) rfl)), List.forall_mem_cons.mpr ⟨List.mem_cons_of_mem _ (List.mem_append_left _ (List.mem_of_getElem? (i := 7) rfl)), List.forall_mem_cons.mpr ⟨List.mem_cons_of_mem _ (List.mem_append_left _ (List.mem_of_getElem? (i := 8) rfl)), fun _ h => absurd h List.not_mem_nil⟩⟩⟩⟩) (by decide +kernel)) gw_X8_step_X2_firstStep
theorem gw_X8_table_X8_isTold : GoodIn W_X8_table W_X8_isTold := fun w h => ⟨List.mem_cons_of_mem _ (List.mem_append_right _ (List.mem_append_right _ (List.mem_append_right _ (List.mem_append_left _ (h))))), (wI_X8_isTold w h).2⟩
theorem gc_X8_table_120_X8_isTold : GoodIn W_X8_table (wsV RX8 120 RX8 yX8_isTold W_X8_isTold) := goodIn_app (goodIn_sub (List.forall_mem_cons.mpr ⟨List.mem_cons_of_mem _ (List.mem_append_left _ (List.mem_of_getElem? (i := 0) rfl)), List.forall_mem_cons.mpr ⟨List.mem_cons_of_mem _ (List.mem_append_left _ (List.mem_of_getElem? (i := 1) rfl)), List.forall_mem_cons.mpr ⟨List.mem_cons_of_mem _ (List.mem_append_left _ (List.mem_of_getElem? (i := 2) rfl)), List.forall_mem_cons.mpr ⟨List.mem_cons_of_mem _ (List.mem_append_left _ (List.mem_of_getElem? (i := 3) rfl)), fun _ h => absurd h List.not_mem_nil⟩⟩⟩⟩) (by decide +kernel)) gw_X8_table_X8_isTold
theorem gw_X8_table_X2_commuting : GoodIn W_X8_table W_X2_commuting := fun w h => ⟨List.mem_cons_of_mem _ (List.mem_append_right _ (List.mem_append_right _ (List.mem_append_right _ (List.mem_append_right _ (h))))), (wI_X2_commuting w h).2⟩
theorem gc_X8_table_180_X2_commuting : GoodIn W_X8_table (wsV RX8 180 RX2 yX2_commuting W_X2_commuting) := goodIn_app (goodIn_sub (List.forall_mem_cons.mpr ⟨List.mem_cons_of_mem _ (List.mem_append_left _ (List.mem_of_getElem? (i := 7) rfl)), List.forall_mem_cons.mpr ⟨List.mem_cons_of_mem _ (List.mem_append_left _ (List.mem_of_getElem? (i := 8) rfl)), List.forall_mem_cons.mpr ⟨List.mem_cons_of_mem _ (List.mem_append_left _ (List.mem_of_getElem? (i := 9) rfl)), List.forall_mem_cons.mpr ⟨List.mem_cons_of_mem _ (List.mem_append_left _ (List.mem_of_getElem? (i := 10) rfl)), fun _ h => absurd h List.not_mem_nil⟩⟩⟩⟩) (by decide +kernel)) gw_X8_table_X2_commuting
theorem gw_X8_valid_X8_noState : GoodIn W_X8_valid W_X8_noState := fun w h => ⟨List.mem_cons_of_mem _ (List.mem_append_right _ (List.mem_append_right _ (List.mem_append_left _ (h)))), (wI_X8_noState w h).2⟩
theorem gc_X8_valid_124_X8_noState : GoodIn W_X8_valid (wsV RX8 124 RX8 yX8_noState W_X8_noState) := goodIn_app (goodIn_sub (List.forall_mem_cons.mpr ⟨List.mem_cons_of_mem _ (List.mem_append_left _ (List.mem_of_getElem? (i := 0) rfl)), List.forall_mem_cons.mpr ⟨List.mem_cons_of_mem _ (List.mem_append_left _ (List.mem_of_getElem? (i := 1) rfl)), List.forall_mem_cons.mpr ⟨List.mem_cons_of_mem _ (List.mem_append_left _ (List.mem_of_getElem? (i := 2) rfl)), List.forall_mem_cons.mpr ⟨List.mem_cons_of_mem _ (List.mem_append_left _ (List.mem_of_getElem? (i := 3) rfl)), fun _ h => absurd h List.not_mem_nil⟩⟩⟩⟩) (by decide +kernel)) gw_X8_valid_X8_noState
theorem gw_X8_valid_X2_isValid : GoodIn W_X8_valid W_X2_isValid := fun w h => ⟨List.mem_cons_of_mem _ (List.mem_append_right _ (List.mem_append_right _ (List.mem_append_right _ (h)))), (wI_X2_isValid w h).2⟩
theorem gc_X8_valid_141_X2_isValid : GoodIn W_X8_valid (wsV RX8 141 RX2 yX2_isValid W_X2_isValid) := goodIn_app (goodIn_sub (List.forall_mem_cons.mpr ⟨List.mem_cons_of_mem _ (List.mem_append_left _ (List.mem_of_getElem? (i := 5) rfl)), List.forall_mem_cons.mpr ⟨List.mem_cons_of_mem _ (List.mem_append_left _ (List.mem_of_getElem? (i := 6) rfl)), List.forall_mem_cons.mpr ⟨List.mem_cons_of_mem _ (List.mem_append_left _ (List.mem_of_getElem? (i := 7) rfl)), List.forall_mem_cons.mpr ⟨List.mem_cons_of_mem _ (List.mem_append_left _ (List.mem_of_getElem? (i := 8) rfl)), fun _ h => absurd h List.not_mem_nil⟩⟩⟩⟩) (by decide +kernel)) gw_X8_valid_X2_isValid
theorem gw_X8_valids_J13_bitCount_95d88 : GoodIn W_X8_valids W_J13_bitCount_95d88 := fun w h => ⟨List.mem_cons_of_mem _ (List.mem_append_right _ (List.mem_append_right _ (List.mem_append_right _ (List.mem_append_right _ (h))))), (wI_J13_bitCount_95d88 w h).2⟩
theorem gc_X8_valids_148_J13_bitCount_95d88 : GoodIn W_X8_valids (va_wsS RX8 148 yJ13_bitCount_95d88 W_J13_bitCount_95d88) := goodIn_app (goodIn_sub (List.forall_mem_cons.mpr ⟨List.mem_cons_of_mem _ (List.mem_append_left _ (List.mem_of_getElem? (i := 6) rfl)), List.forall_mem_cons.mpr ⟨List.mem_cons_of_mem _ (List.mem_append_left _ (List.mem_of_getElem? (i := 7) rfl)), List.forall_mem_cons.mpr ⟨List.mem_cons_of_mem _ (List.mem_append_left _ (List.mem_of_getElem? (i := 8) rfl)), fun _ h => absurd h List.not_mem_nil⟩⟩⟩) (by decide +kernel)) gw_X8_valids_J13_bitCount_95d88
theorem gw_X8_valids_X8_isTold : GoodIn W_X8_valids W_X8_isTold := fun w h => ⟨List.mem_cons_of_mem _ (List.mem_append_right _ (List.mem_append_right _ (List.mem_append_right _ (List.mem_append_left _ (h))))), (wI_X8_isTold w h).2⟩
theorem gc_X8_valids_120_X8_isTold : GoodIn W_X8_valids (wsV RX8 120 RX8 yX8_isTold W_X8_isTold) := goodIn_app (goodIn_sub (List.forall_mem_cons.mpr ⟨List.mem_cons_of_mem _ (List.mem_append_left _ (List.mem_of_getElem? (i := 0) rfl)), List.forall_mem_cons.mpr ⟨List.mem_cons_of_mem _ (List.mem_append_left _ (List.mem_of_getElem? (i := 1) rfl)), List.forall_mem_cons.mpr ⟨List.mem_cons_of_mem _ (List.mem_append_left _ (List.mem_of_getElem? (i := 2) rfl)), List.forall_mem_cons.mpr ⟨List.mem_cons_of_mem _ (List.mem_append_left _ (List.mem_of_getElem? (i := 3) rfl)), fun _ h => absurd h List.not_mem_nil⟩⟩⟩⟩) (by decide +kernel)) gw_X8_valids_X8_isTold
theorem gw_X8_value_X8_noCell : GoodIn W_X8_value W_X8_noCell := fun w h => ⟨List.mem_cons_of_mem _ (List.mem_append_right _ (List.mem_append_right _ (List.mem_append_right _ (List.mem_append_left _ (h))))), (wI_X8_noCell w h).2⟩
theorem gc_X8_value_100_X8_noCell : GoodIn W_X8_value (wsV RX8 100 RX8 yX8_noCell W_X8_noCell) := goodIn_app (goodIn_sub (List.forall_mem_cons.mpr ⟨List.mem_cons_of_mem _ (List.mem_append_left _ (List.mem_of_getElem? (i := 4) rfl)), List.forall_mem_cons.mpr ⟨List.mem_cons_of_mem _ (List.mem_append_left _ (List.mem_of_getElem? (i := 5) rfl)), List.forall_mem_cons.mpr ⟨List.mem_cons_of_mem _ (List.mem_append_left _ (List.mem_of_getElem? (i := 6) rfl)), List.forall_mem_cons.mpr ⟨List.mem_cons_of_mem _ (List.mem_append_left _ (List.mem_of_getElem? (i := 3) rfl)), fun _ h => absurd h List.not_mem_nil⟩⟩⟩⟩) (by decide +kernel)) gw_X8_value_X8_noCell
theorem gw_X8_value_X8_noState : GoodIn W_X8_value W_X8_noState := fun w h => ⟨List.mem_cons_of_mem _ (List.mem_append_right _ (List.mem_append_right _ (List.mem_append_left _ (h)))), (wI_X8_noState w h).2⟩
theorem gc_X8_value_124_X8_noState : GoodIn W_X8_value (wsV RX8 124 RX8 yX8_noState W_X8_noState) := goodIn_app (goodIn_sub (List.forall_mem_cons.mpr ⟨List.mem_cons_of_mem _ (List.mem_append_left _ (List.mem_of_getElem? (i := 0) rfl)), List.forall_mem_cons.mpr ⟨List.mem_cons_of_mem _ (List.mem_append_left _ (List.mem_of_getElem? (i := 1) rfl)), List.forall_mem_cons.mpr ⟨List.mem_cons_of_mem _ (List.mem_append_left _ (List.mem_of_getElem? (i := 2) rfl)), List.forall_mem_cons.mpr ⟨List.mem_cons_of_mem _ (List.mem_append_left _ (List.mem_of_getElem? (i := 3) rfl)), fun _ h => absurd h List.not_mem_nil⟩⟩⟩⟩) (by decide +kernel)) gw_X8_value_X8_noState
theorem gw_X8_value_X6_digit : GoodIn W_X8_value W_X6_digit := fun w h => ⟨List.mem_cons_of_mem _ (List.mem_append_right _ (List.mem_append_right _ (List.mem_append_right _ (List.mem_append_right _ (h))))), (wI_X6_digit w h).2⟩
theorem gc_X8_value_127_X6_digit : GoodIn W_X8_value (wsV RX8 127 RX6 yX6_digit W_X6_digit) := goodIn_app (goodIn_sub (List.forall_mem_cons.mpr ⟨List.mem_cons_of_mem _ (List.mem_append_left _ (List.mem_of_getElem? (i := 8) rfl)), List.forall_mem_cons.mpr ⟨List.mem_cons_of_mem _ (List.mem_append_left _ (List.mem_of_getElem? (i := 9) rfl)), List.forall_mem_cons.mpr ⟨List.mem_cons_of_mem _ (List.mem_append_left _ (List.mem_of_getElem? (i := 10) rfl)), List.forall_mem_cons.mpr ⟨List.mem_cons_of_mem _ (List.mem_append_left _ (List.mem_of_getElem? (i := 11) rfl)), fun _ h => absurd h List.not_mem_nil⟩⟩⟩⟩) (by decide +kernel)) gw_X8_value_X6_digit
theorem gw_X8_weight_X8_noState : GoodIn W_X8_weight W_X8_noState := fun w h => ⟨List.mem_cons_of_mem _ (List.mem_append_right _ (List.mem_append_right _ (List.mem_append_right _ (List.mem_append_left _ (h))))), (wI_X8_noState w h).2⟩
theorem gc_X8_weight_124_X8_noState : GoodIn W_X8_weight (wsV RX8 124 RX8 yX8_noState W_X8_noState) := goodIn_app (goodIn_sub (List.forall_mem_cons.mpr ⟨List.mem_cons_of_mem _ (List.mem_append_left _ (List.mem_of_getElem? (i := 0) rfl)), List.forall_mem_cons.mpr ⟨List.mem_cons_of_mem _ (List.mem_append_left _ (List.mem_of_getElem? (i := 1) rfl)), List.forall_mem_cons.mpr ⟨List.mem_cons_of_mem _ (List.mem_append_left _ (List.mem_of_getElem? (i := 2) rfl)), List.forall_mem_cons.mpr ⟨List.mem_cons_of_mem _ (List.mem_append_left _ (List.mem_of_getElem? (i := 3) rfl)), fun _ h => absurd h List.not_mem_nil⟩⟩⟩⟩) (by decide +kernel)) gw_X8_weight_X8_noState
theorem gw_X8_weight_X6_digit : GoodIn W_X8_weight W_X6_digit := fun w h => ⟨List.mem_cons_of_mem _ (List.mem_append_right _ (List.mem_append_right _ (List.mem_append_right _ (List.mem_append_right _ (h))))), (wI_X6_digit w h).2⟩
theorem gc_X8_weight_127_X6_digit : GoodIn W_X8_weight (wsV RX8 127 RX6 yX6_digit W_X6_digit) := goodIn_app (goodIn_sub (List.forall_mem_cons.mpr ⟨List.mem_cons_of_mem _ (List.mem_append_left _ (List.mem_of_getElem? (i := 7) rfl)), List.forall_mem_cons.mpr ⟨List.mem_cons_of_mem _ (List.mem_append_left _ (List.mem_of_getElem? (i := 8) rfl)), List.forall_mem_cons.mpr ⟨List.mem_cons_of_mem _ (List.mem_append_left _ (List.mem_of_getElem? (i := 9) rfl)), List.forall_mem_cons.mpr ⟨List.mem_cons_of_mem _ (List.mem_append_left _ (List.mem_of_getElem? (i := 10) rfl)), fun _ h => absurd h List.not_mem_nil⟩⟩⟩⟩) (by decide +kernel)) gw_X8_weight_X6_digit
theorem gw_X8_works_X8_noOp : GoodIn W_X8_works W_X8_noOp := fun w h => ⟨List.mem_cons_of_mem _ (List.mem_append_right _ (List.mem_append_right _ (List.mem_append_left _ (h)))), (wI_X8_noOp w h).2⟩
theorem gc_X8_works_114_X8_noOp : GoodIn W_X8_works (wsV RX8 114 RX8 yX8_noOp W_X8_noOp) := goodIn_app (goodIn_sub (List.forall_mem_cons.mpr ⟨List.mem_cons_of_mem _ (List.mem_append_left _ (List.mem_of_getElem? (i := 0) rfl)), List.forall_mem_cons.mpr ⟨List.mem_cons_of_mem _ (List.mem_append_left _ (List.mem_of_getElem? (i := 1) rfl)), List.forall_mem_cons.mpr ⟨List.mem_cons_of_mem _ (List.mem_append_left _ (List.mem_of_getElem? (i := 2) rfl)), List.forall_mem_cons.mpr ⟨List.mem_cons_of_mem _ (List.mem_append_left _ (List.mem_of_getElem? (i := 3) rfl)), fun _ h => absurd h List.not_mem_nil⟩⟩⟩⟩) (by decide +kernel)) gw_X8_works_X8_noOp
theorem gw_X8_works_X2_worksFrom : GoodIn W_X8_works W_X2_worksFrom := fun w h => ⟨List.mem_cons_of_mem _ (List.mem_append_right _ (List.mem_append_right _ (List.mem_append_right _ (h)))), (wI_X2_worksFrom w h).2⟩
theorem gc_X8_works_177_X2_worksFrom : GoodIn W_X8_works (wsV RX8 177 RX2 yX2_worksFrom W_X2_worksFrom) := goodIn_app (goodIn_sub (List.forall_mem_cons.mpr ⟨List.mem_cons_of_mem _ (List.mem_append_left _ (List.mem_of_getElem? (i := 5) rfl)), List.forall_mem_cons.mpr ⟨List.mem_cons_of_mem _ (List.mem_append_left _ (List.mem_of_getElem? (i := 6) rfl)), List.forall_mem_cons.mpr ⟨List.mem_cons_of_mem _ (List.mem_append_left _ (List.mem_of_getElem? (i := 7) rfl)), List.forall_mem_cons.mpr ⟨List.mem_cons_of_mem _ (List.mem_append_left _ (List.mem_of_getElem? (i := 8) rfl)), fun _ h => absurd h List.not_mem_nil⟩⟩⟩⟩) (by decide +kernel)) gw_X8_works_X2_worksFrom
