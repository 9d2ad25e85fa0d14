theorem dX8_all_0 : decode cX8_all 0 = .ok (.aload_n 0, 1) := by decide +kernel
theorem dX8_all_1 : decode cX8_all 1 = .ok (.iload_n 1, 1) := by decide +kernel
theorem dX8_all_2 : decode cX8_all 2 = .ok (.invokevirtual 196, 3) := by decide +kernel
theorem dX8_all_5 : decode cX8_all 5 = .ok (.ifCond .eq 8, 3) := by decide +kernel
theorem dX8_all_8 : decode cX8_all 8 = .ok (.bipush (-2), 2) := by decide +kernel
theorem dX8_all_10 : decode cX8_all 10 = .ok (.goto 11, 3) := by decide +kernel
theorem dX8_all_13 : decode cX8_all 13 = .ok (.aload_n 0, 1) := by decide +kernel
theorem dX8_all_14 : decode cX8_all 14 = .ok (.getfield 47, 3) := by decide +kernel
theorem dX8_all_17 : decode cX8_all 17 = .ok (.iload_n 1, 1) := by decide +kernel
theorem dX8_all_18 : decode cX8_all 18 = .ok (.invokevirtual 214, 3) := by decide +kernel
theorem dX8_all_21 : decode cX8_all 21 = .ok (.ireturn, 1) := by decide +kernel
theorem dX8_alone_0 : decode cX8_alone 0 = .ok (.aload_n 0, 1) := by decide +kernel
theorem dX8_alone_1 : decode cX8_alone 1 = .ok (.iload_n 1, 1) := by decide +kernel
theorem dX8_alone_2 : decode cX8_alone 2 = .ok (.invokevirtual 108, 3) := by decide +kernel
theorem dX8_alone_5 : decode cX8_alone 5 = .ok (.ifCond .ne 11, 3) := by decide +kernel
theorem dX8_alone_8 : decode cX8_alone 8 = .ok (.aload_n 0, 1) := by decide +kernel
theorem dX8_alone_9 : decode cX8_alone 9 = .ok (.iload_n 2, 1) := by decide +kernel
theorem dX8_alone_10 : decode cX8_alone 10 = .ok (.invokevirtual 196, 3) := by decide +kernel
theorem dX8_alone_13 : decode cX8_alone 13 = .ok (.ifCond .eq 6, 3) := by decide +kernel
theorem dX8_alone_16 : decode cX8_alone 16 = .ok (.bipush (-2), 2) := by decide +kernel
theorem dX8_alone_18 : decode cX8_alone 18 = .ok (.ireturn, 1) := by decide +kernel
theorem dX8_alone_19 : decode cX8_alone 19 = .ok (.aload_n 0, 1) := by decide +kernel
theorem dX8_alone_20 : decode cX8_alone 20 = .ok (.getfield 47, 3) := by decide +kernel
theorem dX8_alone_23 : decode cX8_alone 23 = .ok (.iload_n 1, 1) := by decide +kernel
theorem dX8_alone_24 : decode cX8_alone 24 = .ok (.iload_n 2, 1) := by decide +kernel
theorem dX8_alone_25 : decode cX8_alone 25 = .ok (.invokevirtual 235, 3) := by decide +kernel
theorem dX8_alone_28 : decode cX8_alone 28 = .ok (.ifCond .eq 7, 3) := by decide +kernel
theorem dX8_alone_31 : decode cX8_alone 31 = .ok (.iconst 1, 1) := by decide +kernel
theorem dX8_alone_32 : decode cX8_alone 32 = .ok (.goto 4, 3) := by decide +kernel
theorem dX8_alone_35 : decode cX8_alone 35 = .ok (.iconst 0, 1) := by decide +kernel
theorem dX8_alone_36 : decode cX8_alone 36 = .ok (.ireturn, 1) := by decide +kernel
theorem dX8_bad_0 : decode cX8_bad 0 = .ok (.aload_n 0, 1) := by decide +kernel
theorem dX8_bad_1 : decode cX8_bad 1 = .ok (.iload_n 1, 1) := by decide +kernel
theorem dX8_bad_2 : decode cX8_bad 2 = .ok (.invokevirtual 124, 3) := by decide +kernel
theorem dX8_bad_5 : decode cX8_bad 5 = .ok (.ifCond .ne 11, 3) := by decide +kernel
theorem dX8_bad_8 : decode cX8_bad 8 = .ok (.aload_n 0, 1) := by decide +kernel
theorem dX8_bad_9 : decode cX8_bad 9 = .ok (.iload_n 2, 1) := by decide +kernel
theorem dX8_bad_10 : decode cX8_bad 10 = .ok (.invokevirtual 196, 3) := by decide +kernel
theorem dX8_bad_13 : decode cX8_bad 13 = .ok (.ifCond .eq 8, 3) := by decide +kernel
theorem dX8_bad_16 : decode cX8_bad 16 = .ok (.bipush (-2), 2) := by decide +kernel
theorem dX8_bad_18 : decode cX8_bad 18 = .ok (.goto 12, 3) := by decide +kernel
theorem dX8_bad_21 : decode cX8_bad 21 = .ok (.aload_n 0, 1) := by decide +kernel
theorem dX8_bad_22 : decode cX8_bad 22 = .ok (.getfield 47, 3) := by decide +kernel
theorem dX8_bad_25 : decode cX8_bad 25 = .ok (.iload_n 1, 1) := by decide +kernel
theorem dX8_bad_26 : decode cX8_bad 26 = .ok (.iload_n 2, 1) := by decide +kernel
theorem dX8_bad_27 : decode cX8_bad 27 = .ok (.invokevirtual 211, 3) := by decide +kernel
theorem dX8_bad_30 : decode cX8_bad 30 = .ok (.ireturn, 1) := by decide +kernel
theorem dX8_bare_0 : decode cX8_bare 0 = .ok (.aload_n 0, 1) := by decide +kernel
theorem dX8_bare_1 : decode cX8_bare 1 = .ok (.iload_n 1, 1) := by decide +kernel
theorem dX8_bare_2 : decode cX8_bare 2 = .ok (.invokevirtual 196, 3) := by decide +kernel
theorem dX8_bare_5 : decode cX8_bare 5 = .ok (.ifCond .eq 6, 3) := by decide +kernel
theorem dX8_bare_8 : decode cX8_bare 8 = .ok (.bipush (-2), 2) := by decide +kernel
theorem dX8_bare_10 : decode cX8_bare 10 = .ok (.ireturn, 1) := by decide +kernel
theorem dX8_bare_11 : decode cX8_bare 11 = .ok (.iconst 0, 1) := by decide +kernel
theorem dX8_bare_12 : decode cX8_bare 12 = .ok (.istore_n 2, 1) := by decide +kernel
theorem dX8_bare_13 : decode cX8_bare 13 = .ok (.iconst 0, 1) := by decide +kernel
theorem dX8_bare_14 : decode cX8_bare 14 = .ok (.istore_n 3, 1) := by decide +kernel
theorem dX8_bare_15 : decode cX8_bare 15 = .ok (.iload_n 3, 1) := by decide +kernel
theorem dX8_bare_16 : decode cX8_bare 16 = .ok (.aload_n 0, 1) := by decide +kernel
theorem dX8_bare_17 : decode cX8_bare 17 = .ok (.getfield 38, 3) := by decide +kernel
theorem dX8_bare_20 : decode cX8_bare 20 = .ok (.getfield 123, 3) := by decide +kernel
theorem dX8_bare_23 : decode cX8_bare 23 = .ok (.if_icmp .ge 24, 3) := by decide +kernel
theorem dX8_bare_26 : decode cX8_bare 26 = .ok (.aload_n 0, 1) := by decide +kernel
theorem dX8_bare_27 : decode cX8_bare 27 = .ok (.getfield 47, 3) := by decide +kernel
theorem dX8_bare_30 : decode cX8_bare 30 = .ok (.iload_n 3, 1) := by decide +kernel
theorem dX8_bare_31 : decode cX8_bare 31 = .ok (.iload_n 1, 1) := by decide +kernel
theorem dX8_bare_32 : decode cX8_bare 32 = .ok (.invokevirtual 211, 3) := by decide +kernel
theorem dX8_bare_35 : decode cX8_bare 35 = .ok (.ifCond .le 6, 3) := by decide +kernel
theorem dX8_bare_38 : decode cX8_bare 38 = .ok (.iinc 2 1, 3) := by decide +kernel
theorem dX8_bare_41 : decode cX8_bare 41 = .ok (.iinc 3 1, 3) := by decide +kernel
theorem dX8_bare_44 : decode cX8_bare 44 = .ok (.goto (-29), 3) := by decide +kernel
theorem dX8_bare_47 : decode cX8_bare 47 = .ok (.iload_n 2, 1) := by decide +kernel
theorem dX8_bare_48 : decode cX8_bare 48 = .ok (.ireturn, 1) := by decide +kernel
theorem dX8_blame_0 : decode cX8_blame 0 = .ok (.aload_n 0, 1) := by decide +kernel
theorem dX8_blame_1 : decode cX8_blame 1 = .ok (.invokevirtual 120, 3) := by decide +kernel
theorem dX8_blame_4 : decode cX8_blame 4 = .ok (.ifCond .ne 6, 3) := by decide +kernel
theorem dX8_blame_7 : decode cX8_blame 7 = .ok (.bipush (-2), 2) := by decide +kernel
theorem dX8_blame_9 : decode cX8_blame 9 = .ok (.ireturn, 1) := by decide +kernel
theorem dX8_blame_10 : decode cX8_blame 10 = .ok (.iconst (-1), 1) := by decide +kernel
theorem dX8_blame_11 : decode cX8_blame 11 = .ok (.istore_n 1, 1) := by decide +kernel
theorem dX8_blame_12 : decode cX8_blame 12 = .ok (.aload_n 0, 1) := by decide +kernel
theorem dX8_blame_13 : decode cX8_blame 13 = .ok (.getfield 47, 3) := by decide +kernel
theorem dX8_blame_16 : decode cX8_blame 16 = .ok (.iconst 1, 1) := by decide +kernel
theorem dX8_blame_17 : decode cX8_blame 17 = .ok (.invokevirtual 214, 3) := by decide +kernel
theorem dX8_blame_20 : decode cX8_blame 20 = .ok (.istore_n 2, 1) := by decide +kernel
theorem dX8_blame_21 : decode cX8_blame 21 = .ok (.iconst 0, 1) := by decide +kernel
theorem dX8_blame_22 : decode cX8_blame 22 = .ok (.istore_n 3, 1) := by decide +kernel
theorem dX8_blame_23 : decode cX8_blame 23 = .ok (.iload_n 3, 1) := by decide +kernel
theorem dX8_blame_24 : decode cX8_blame 24 = .ok (.aload_n 0, 1) := by decide +kernel
theorem dX8_blame_25 : decode cX8_blame 25 = .ok (.getfield 23, 3) := by decide +kernel
theorem dX8_blame_28 : decode cX8_blame 28 = .ok (.getfield 164, 3) := by decide +kernel
theorem dX8_blame_31 : decode cX8_blame 31 = .ok (.if_icmp .ge 47, 3) := by decide +kernel
theorem dX8_blame_34 : decode cX8_blame 34 = .ok (.aload_n 0, 1) := by decide +kernel
theorem dX8_blame_35 : decode cX8_blame 35 = .ok (.getfield 47, 3) := by decide +kernel
theorem dX8_blame_38 : decode cX8_blame 38 = .ok (.aload_n 0, 1) := by decide +kernel
theorem dX8_blame_39 : decode cX8_blame 39 = .ok (.getfield 23, 3) := by decide +kernel
theorem dX8_blame_42 : decode cX8_blame 42 = .ok (.getfield 135, 3) := by decide +kernel
theorem dX8_blame_45 : decode cX8_blame 45 = .ok (.iconst 1, 1) := by decide +kernel
theorem dX8_blame_46 : decode cX8_blame 46 = .ok (.iload_n 3, 1) := by decide +kernel
theorem dX8_blame_47 : decode cX8_blame 47 = .ok (.ishl, 1) := by decide +kernel
theorem dX8_blame_48 : decode cX8_blame 48 = .ok (.ior, 1) := by decide +kernel
theorem dX8_blame_49 : decode cX8_blame 49 = .ok (.aload_n 0, 1) := by decide +kernel
theorem dX8_blame_50 : decode cX8_blame 50 = .ok (.getfield 23, 3) := by decide +kernel
theorem dX8_blame_53 : decode cX8_blame 53 = .ok (.getfield 138, 3) := by decide +kernel
theorem dX8_blame_56 : decode cX8_blame 56 = .ok (.invokevirtual 248, 3) := by decide +kernel
theorem dX8_blame_59 : decode cX8_blame 59 = .ok (.istore 4, 2) := by decide +kernel
theorem dX8_blame_61 : decode cX8_blame 61 = .ok (.iload 4, 2) := by decide +kernel
theorem dX8_blame_63 : decode cX8_blame 63 = .ok (.iload_n 2, 1) := by decide +kernel
theorem dX8_blame_64 : decode cX8_blame 64 = .ok (.if_icmp .ge 8, 3) := by decide +kernel
theorem dX8_blame_67 : decode cX8_blame 67 = .ok (.iload 4, 2) := by decide +kernel
theorem dX8_blame_69 : decode cX8_blame 69 = .ok (.istore_n 2, 1) := by decide +kernel
theorem dX8_blame_70 : decode cX8_blame 70 = .ok (.iload_n 3, 1) := by decide +kernel
theorem dX8_blame_71 : decode cX8_blame 71 = .ok (.istore_n 1, 1) := by decide +kernel
theorem dX8_blame_72 : decode cX8_blame 72 = .ok (.iinc 3 1, 3) := by decide +kernel
theorem dX8_blame_75 : decode cX8_blame 75 = .ok (.goto (-52), 3) := by decide +kernel
theorem dX8_blame_78 : decode cX8_blame 78 = .ok (.iload_n 1, 1) := by decide +kernel
theorem dX8_blame_79 : decode cX8_blame 79 = .ok (.ireturn, 1) := by decide +kernel
theorem dX8_bound_0 : decode cX8_bound 0 = .ok (.aload_n 0, 1) := by decide +kernel
theorem dX8_bound_1 : decode cX8_bound 1 = .ok (.invokevirtual 120, 3) := by decide +kernel
theorem dX8_bound_4 : decode cX8_bound 4 = .ok (.ifCond .ne 6, 3) := by decide +kernel
theorem dX8_bound_7 : decode cX8_bound 7 = .ok (.bipush (-2), 2) := by decide +kernel
theorem dX8_bound_9 : decode cX8_bound 9 = .ok (.ireturn, 1) := by decide +kernel
theorem dX8_bound_10 : decode cX8_bound 10 = .ok (.iconst 3, 1) := by decide +kernel
theorem dX8_bound_11 : decode cX8_bound 11 = .ok (.istore_n 1, 1) := by decide +kernel
theorem dX8_bound_12 : decode cX8_bound 12 = .ok (.iload_n 1, 1) := by decide +kernel
theorem dX8_bound_13 : decode cX8_bound 13 = .ok (.ifCond .lt 22, 3) := by decide +kernel
theorem dX8_bound_16 : decode cX8_bound 16 = .ok (.aload_n 0, 1) := by decide +kernel
theorem dX8_bound_17 : decode cX8_bound 17 = .ok (.getfield 47, 3) := by decide +kernel
theorem dX8_bound_20 : decode cX8_bound 20 = .ok (.iload_n 1, 1) := by decide +kernel
theorem dX8_bound_21 : decode cX8_bound 21 = .ok (.invokevirtual 220, 3) := by decide +kernel
theorem dX8_bound_24 : decode cX8_bound 24 = .ok (.ifCond .eq 5, 3) := by decide +kernel
theorem dX8_bound_27 : decode cX8_bound 27 = .ok (.iload_n 1, 1) := by decide +kernel
theorem dX8_bound_28 : decode cX8_bound 28 = .ok (.ireturn, 1) := by decide +kernel
theorem dX8_bound_29 : decode cX8_bound 29 = .ok (.iinc 1 (-1), 3) := by decide +kernel
theorem dX8_bound_32 : decode cX8_bound 32 = .ok (.goto (-20), 3) := by decide +kernel
theorem dX8_bound_35 : decode cX8_bound 35 = .ok (.iconst (-1), 1) := by decide +kernel
theorem dX8_bound_36 : decode cX8_bound 36 = .ok (.ireturn, 1) := by decide +kernel
theorem dX8_calm_0 : decode cX8_calm 0 = .ok (.aload_n 0, 1) := by decide +kernel
theorem dX8_calm_1 : decode cX8_calm 1 = .ok (.iload_n 1, 1) := by decide +kernel
theorem dX8_calm_2 : decode cX8_calm 2 = .ok (.invokevirtual 124, 3) := by decide +kernel
theorem dX8_calm_5 : decode cX8_calm 5 = .ok (.ifCond .eq 6, 3) := by decide +kernel
theorem dX8_calm_8 : decode cX8_calm 8 = .ok (.bipush (-2), 2) := by decide +kernel
theorem dX8_calm_10 : decode cX8_calm 10 = .ok (.ireturn, 1) := by decide +kernel
theorem dX8_calm_11 : decode cX8_calm 11 = .ok (.iconst 3, 1) := by decide +kernel
theorem dX8_calm_12 : decode cX8_calm 12 = .ok (.istore_n 2, 1) := by decide +kernel
theorem dX8_calm_13 : decode cX8_calm 13 = .ok (.iload_n 2, 1) := by decide +kernel
theorem dX8_calm_14 : decode cX8_calm 14 = .ok (.ifCond .lt 34, 3) := by decide +kernel
theorem dX8_calm_17 : decode cX8_calm 17 = .ok (.aload_n 0, 1) := by decide +kernel
theorem dX8_calm_18 : decode cX8_calm 18 = .ok (.getfield 47, 3) := by decide +kernel
theorem dX8_calm_21 : decode cX8_calm 21 = .ok (.iload_n 1, 1) := by decide +kernel
theorem dX8_calm_22 : decode cX8_calm 22 = .ok (.invokevirtual 141, 3) := by decide +kernel
theorem dX8_calm_25 : decode cX8_calm 25 = .ok (.ifCond .eq 17, 3) := by decide +kernel
theorem dX8_calm_28 : decode cX8_calm 28 = .ok (.aload_n 0, 1) := by decide +kernel
theorem dX8_calm_29 : decode cX8_calm 29 = .ok (.getfield 47, 3) := by decide +kernel
theorem dX8_calm_32 : decode cX8_calm 32 = .ok (.iload_n 1, 1) := by decide +kernel
theorem dX8_calm_33 : decode cX8_calm 33 = .ok (.iload_n 2, 1) := by decide +kernel
theorem dX8_calm_34 : decode cX8_calm 34 = .ok (.invokevirtual 211, 3) := by decide +kernel
theorem dX8_calm_37 : decode cX8_calm 37 = .ok (.ifCond .ne 5, 3) := by decide +kernel
theorem dX8_calm_40 : decode cX8_calm 40 = .ok (.iload_n 2, 1) := by decide +kernel
theorem dX8_calm_41 : decode cX8_calm 41 = .ok (.ireturn, 1) := by decide +kernel
theorem dX8_calm_42 : decode cX8_calm 42 = .ok (.iinc 2 (-1), 3) := by decide +kernel
theorem dX8_calm_45 : decode cX8_calm 45 = .ok (.goto (-32), 3) := by decide +kernel
theorem dX8_calm_48 : decode cX8_calm 48 = .ok (.iconst (-1), 1) := by decide +kernel
theorem dX8_calm_49 : decode cX8_calm 49 = .ok (.ireturn, 1) := by decide +kernel
theorem dX8_culprit_0 : decode cX8_culprit 0 = .ok (.aload_n 0, 1) := by decide +kernel
theorem dX8_culprit_1 : decode cX8_culprit 1 = .ok (.iload_n 1, 1) := by decide +kernel
theorem dX8_culprit_2 : decode cX8_culprit 2 = .ok (.invokevirtual 196, 3) := by decide +kernel
theorem dX8_culprit_5 : decode cX8_culprit 5 = .ok (.ifCond .eq 6, 3) := by decide +kernel
theorem dX8_culprit_8 : decode cX8_culprit 8 = .ok (.bipush (-2), 2) := by decide +kernel
theorem dX8_culprit_10 : decode cX8_culprit 10 = .ok (.ireturn, 1) := by decide +kernel
theorem dX8_culprit_11 : decode cX8_culprit 11 = .ok (.aload_n 0, 1) := by decide +kernel
theorem dX8_culprit_12 : decode cX8_culprit 12 = .ok (.getfield 47, 3) := by decide +kernel
theorem dX8_culprit_15 : decode cX8_culprit 15 = .ok (.iload_n 1, 1) := by decide +kernel
theorem dX8_culprit_16 : decode cX8_culprit 16 = .ok (.invokevirtual 223, 3) := by decide +kernel
theorem dX8_culprit_19 : decode cX8_culprit 19 = .ok (.ifCond .eq 22, 3) := by decide +kernel
theorem dX8_culprit_22 : decode cX8_culprit 22 = .ok (.aload_n 0, 1) := by decide +kernel
theorem dX8_culprit_23 : decode cX8_culprit 23 = .ok (.getfield 47, 3) := by decide +kernel
theorem dX8_culprit_26 : decode cX8_culprit 26 = .ok (.aload_n 0, 1) := by decide +kernel
theorem dX8_culprit_27 : decode cX8_culprit 27 = .ok (.getfield 47, 3) := by decide +kernel
theorem dX8_culprit_30 : decode cX8_culprit 30 = .ok (.getfield 226, 3) := by decide +kernel
theorem dX8_culprit_33 : decode cX8_culprit 33 = .ok (.iconst 3, 1) := by decide +kernel
theorem dX8_culprit_34 : decode cX8_culprit 34 = .ok (.iaload, 1) := by decide +kernel
theorem dX8_culprit_35 : decode cX8_culprit 35 = .ok (.invokevirtual 154, 3) := by decide +kernel
theorem dX8_culprit_38 : decode cX8_culprit 38 = .ok (.goto 4, 3) := by decide +kernel
theorem dX8_culprit_41 : decode cX8_culprit 41 = .ok (.iconst (-1), 1) := by decide +kernel
theorem dX8_culprit_42 : decode cX8_culprit 42 = .ok (.ireturn, 1) := by decide +kernel
theorem dX8_cure_0 : decode cX8_cure 0 = .ok (.aload_n 0, 1) := by decide +kernel
theorem dX8_cure_1 : decode cX8_cure 1 = .ok (.invokevirtual 120, 3) := by decide +kernel
theorem dX8_cure_4 : decode cX8_cure 4 = .ok (.ifCond .ne 6, 3) := by decide +kernel
theorem dX8_cure_7 : decode cX8_cure 7 = .ok (.bipush (-2), 2) := by decide +kernel
theorem dX8_cure_9 : decode cX8_cure 9 = .ok (.ireturn, 1) := by decide +kernel
theorem dX8_cure_10 : decode cX8_cure 10 = .ok (.iconst (-1), 1) := by decide +kernel
theorem dX8_cure_11 : decode cX8_cure 11 = .ok (.istore_n 1, 1) := by decide +kernel
theorem dX8_cure_12 : decode cX8_cure 12 = .ok (.aload_n 0, 1) := by decide +kernel
theorem dX8_cure_13 : decode cX8_cure 13 = .ok (.getfield 47, 3) := by decide +kernel
theorem dX8_cure_16 : decode cX8_cure 16 = .ok (.iconst 1, 1) := by decide +kernel
theorem dX8_cure_17 : decode cX8_cure 17 = .ok (.invokevirtual 214, 3) := by decide +kernel
theorem dX8_cure_20 : decode cX8_cure 20 = .ok (.istore_n 2, 1) := by decide +kernel
theorem dX8_cure_21 : decode cX8_cure 21 = .ok (.iconst 0, 1) := by decide +kernel
theorem dX8_cure_22 : decode cX8_cure 22 = .ok (.istore_n 3, 1) := by decide +kernel
theorem dX8_cure_23 : decode cX8_cure 23 = .ok (.iload_n 3, 1) := by decide +kernel
theorem dX8_cure_24 : decode cX8_cure 24 = .ok (.aload_n 0, 1) := by decide +kernel
theorem dX8_cure_25 : decode cX8_cure 25 = .ok (.getfield 23, 3) := by decide +kernel
theorem dX8_cure_28 : decode cX8_cure 28 = .ok (.getfield 158, 3) := by decide +kernel
theorem dX8_cure_31 : decode cX8_cure 31 = .ok (.if_icmp .ge 53, 3) := by decide +kernel
theorem dX8_cure_34 : decode cX8_cure 34 = .ok (.iconst 0, 1) := by decide +kernel
theorem dX8_cure_35 : decode cX8_cure 35 = .ok (.istore 4, 2) := by decide +kernel
theorem dX8_cure_37 : decode cX8_cure 37 = .ok (.iload 4, 2) := by decide +kernel
theorem dX8_cure_39 : decode cX8_cure 39 = .ok (.iconst 4, 1) := by decide +kernel
theorem dX8_cure_40 : decode cX8_cure 40 = .ok (.if_icmp .ge 38, 3) := by decide +kernel
theorem dX8_cure_43 : decode cX8_cure 43 = .ok (.aload_n 0, 1) := by decide +kernel
theorem dX8_cure_44 : decode cX8_cure 44 = .ok (.getfield 47, 3) := by decide +kernel
theorem dX8_cure_47 : decode cX8_cure 47 = .ok (.iload_n 3, 1) := by decide +kernel
theorem dX8_cure_48 : decode cX8_cure 48 = .ok (.iload 4, 2) := by decide +kernel
theorem dX8_cure_50 : decode cX8_cure 50 = .ok (.invokevirtual 251, 3) := by decide +kernel
theorem dX8_cure_53 : decode cX8_cure 53 = .ok (.istore 5, 2) := by decide +kernel
theorem dX8_cure_55 : decode cX8_cure 55 = .ok (.iload 5, 2) := by decide +kernel
theorem dX8_cure_57 : decode cX8_cure 57 = .ok (.iload_n 2, 1) := by decide +kernel
theorem dX8_cure_58 : decode cX8_cure 58 = .ok (.if_icmp .ge 14, 3) := by decide +kernel
theorem dX8_cure_61 : decode cX8_cure 61 = .ok (.iload 5, 2) := by decide +kernel
theorem dX8_cure_63 : decode cX8_cure 63 = .ok (.istore_n 2, 1) := by decide +kernel
theorem dX8_cure_64 : decode cX8_cure 64 = .ok (.bipush 10, 2) := by decide +kernel
theorem dX8_cure_66 : decode cX8_cure 66 = .ok (.iload_n 3, 1) := by decide +kernel
theorem dX8_cure_67 : decode cX8_cure 67 = .ok (.imul, 1) := by decide +kernel
theorem dX8_cure_68 : decode cX8_cure 68 = .ok (.iload 4, 2) := by decide +kernel
theorem dX8_cure_70 : decode cX8_cure 70 = .ok (.iadd, 1) := by decide +kernel
theorem dX8_cure_71 : decode cX8_cure 71 = .ok (.istore_n 1, 1) := by decide +kernel
theorem dX8_cure_72 : decode cX8_cure 72 = .ok (.iinc 4 1, 3) := by decide +kernel
theorem dX8_cure_75 : decode cX8_cure 75 = .ok (.goto (-38), 3) := by decide +kernel
theorem dX8_cure_78 : decode cX8_cure 78 = .ok (.iinc 3 1, 3) := by decide +kernel
theorem dX8_cure_81 : decode cX8_cure 81 = .ok (.goto (-58), 3) := by decide +kernel
theorem dX8_cure_84 : decode cX8_cure 84 = .ok (.iload_n 1, 1) := by decide +kernel
theorem dX8_cure_85 : decode cX8_cure 85 = .ok (.ireturn, 1) := by decide +kernel
theorem dX8_fewest_0 : decode cX8_fewest 0 = .ok (.aload_n 0, 1) := by decide +kernel
theorem dX8_fewest_1 : decode cX8_fewest 1 = .ok (.iload_n 1, 1) := by decide +kernel
theorem dX8_fewest_2 : decode cX8_fewest 2 = .ok (.invokevirtual 196, 3) := by decide +kernel
theorem dX8_fewest_5 : decode cX8_fewest 5 = .ok (.ifCond .eq 6, 3) := by decide +kernel
theorem dX8_fewest_8 : decode cX8_fewest 8 = .ok (.bipush (-2), 2) := by decide +kernel
theorem dX8_fewest_10 : decode cX8_fewest 10 = .ok (.ireturn, 1) := by decide +kernel
theorem dX8_fewest_11 : decode cX8_fewest 11 = .ok (.aload_n 0, 1) := by decide +kernel
theorem dX8_fewest_12 : decode cX8_fewest 12 = .ok (.getfield 47, 3) := by decide +kernel
theorem dX8_fewest_15 : decode cX8_fewest 15 = .ok (.iload_n 1, 1) := by decide +kernel
theorem dX8_fewest_16 : decode cX8_fewest 16 = .ok (.invokevirtual 238, 3) := by decide +kernel
theorem dX8_fewest_19 : decode cX8_fewest 19 = .ok (.istore_n 2, 1) := by decide +kernel
theorem dX8_fewest_20 : decode cX8_fewest 20 = .ok (.iload_n 2, 1) := by decide +kernel
theorem dX8_fewest_21 : decode cX8_fewest 21 = .ok (.iconst (-1), 1) := by decide +kernel
theorem dX8_fewest_22 : decode cX8_fewest 22 = .ok (.if_icmp .ne 7, 3) := by decide +kernel
theorem dX8_fewest_25 : decode cX8_fewest 25 = .ok (.iconst (-1), 1) := by decide +kernel
theorem dX8_fewest_26 : decode cX8_fewest 26 = .ok (.goto 7, 3) := by decide +kernel
theorem dX8_fewest_29 : decode cX8_fewest 29 = .ok (.iload_n 2, 1) := by decide +kernel
theorem dX8_fewest_30 : decode cX8_fewest 30 = .ok (.invokestatic 241, 3) := by decide +kernel
theorem dX8_fewest_33 : decode cX8_fewest 33 = .ok (.ireturn, 1) := by decide +kernel
theorem dX8_fine_0 : decode cX8_fine 0 = .ok (.aload_n 0, 1) := by decide +kernel
theorem dX8_fine_1 : decode cX8_fine 1 = .ok (.iload_n 1, 1) := by decide +kernel
theorem dX8_fine_2 : decode cX8_fine 2 = .ok (.invokevirtual 196, 3) := by decide +kernel
theorem dX8_fine_5 : decode cX8_fine 5 = .ok (.ifCond .eq 6, 3) := by decide +kernel
theorem dX8_fine_8 : decode cX8_fine 8 = .ok (.bipush (-2), 2) := by decide +kernel
theorem dX8_fine_10 : decode cX8_fine 10 = .ok (.ireturn, 1) := by decide +kernel
theorem dX8_fine_11 : decode cX8_fine 11 = .ok (.iconst 0, 1) := by decide +kernel
theorem dX8_fine_12 : decode cX8_fine 12 = .ok (.istore_n 2, 1) := by decide +kernel
theorem dX8_fine_13 : decode cX8_fine 13 = .ok (.iconst 0, 1) := by decide +kernel
theorem dX8_fine_14 : decode cX8_fine 14 = .ok (.istore_n 3, 1) := by decide +kernel
theorem dX8_fine_15 : decode cX8_fine 15 = .ok (.iload_n 3, 1) := by decide +kernel
theorem dX8_fine_16 : decode cX8_fine 16 = .ok (.aload_n 0, 1) := by decide +kernel
theorem dX8_fine_17 : decode cX8_fine 17 = .ok (.getfield 23, 3) := by decide +kernel
theorem dX8_fine_20 : decode cX8_fine 20 = .ok (.getfield 164, 3) := by decide +kernel
theorem dX8_fine_23 : decode cX8_fine 23 = .ok (.if_icmp .ge 27, 3) := by decide +kernel
theorem dX8_fine_26 : decode cX8_fine 26 = .ok (.aload_n 0, 1) := by decide +kernel
theorem dX8_fine_27 : decode cX8_fine 27 = .ok (.getfield 47, 3) := by decide +kernel
theorem dX8_fine_30 : decode cX8_fine 30 = .ok (.iload_n 3, 1) := by decide +kernel
theorem dX8_fine_31 : decode cX8_fine 31 = .ok (.iload_n 1, 1) := by decide +kernel
theorem dX8_fine_32 : decode cX8_fine 32 = .ok (.invokevirtual 235, 3) := by decide +kernel
theorem dX8_fine_35 : decode cX8_fine 35 = .ok (.ifCond .eq 9, 3) := by decide +kernel
theorem dX8_fine_38 : decode cX8_fine 38 = .ok (.iload_n 2, 1) := by decide +kernel
theorem dX8_fine_39 : decode cX8_fine 39 = .ok (.iconst 1, 1) := by decide +kernel
theorem dX8_fine_40 : decode cX8_fine 40 = .ok (.iload_n 3, 1) := by decide +kernel
theorem dX8_fine_41 : decode cX8_fine 41 = .ok (.ishl, 1) := by decide +kernel
theorem dX8_fine_42 : decode cX8_fine 42 = .ok (.ior, 1) := by decide +kernel
theorem dX8_fine_43 : decode cX8_fine 43 = .ok (.istore_n 2, 1) := by decide +kernel
theorem dX8_fine_44 : decode cX8_fine 44 = .ok (.iinc 3 1, 3) := by decide +kernel
theorem dX8_fine_47 : decode cX8_fine 47 = .ok (.goto (-32), 3) := by decide +kernel
theorem dX8_fine_50 : decode cX8_fine 50 = .ok (.iload_n 2, 1) := by decide +kernel
theorem dX8_fine_51 : decode cX8_fine 51 = .ok (.ireturn, 1) := by decide +kernel
theorem dX8_hits_0 : decode cX8_hits 0 = .ok (.aload_n 0, 1) := by decide +kernel
theorem dX8_hits_1 : decode cX8_hits 1 = .ok (.iload_n 1, 1) := by decide +kernel
theorem dX8_hits_2 : decode cX8_hits 2 = .ok (.invokevirtual 108, 3) := by decide +kernel
theorem dX8_hits_5 : decode cX8_hits 5 = .ok (.ifCond .ne 11, 3) := by decide +kernel
theorem dX8_hits_8 : decode cX8_hits 8 = .ok (.aload_n 0, 1) := by decide +kernel
theorem dX8_hits_9 : decode cX8_hits 9 = .ok (.iload_n 2, 1) := by decide +kernel
theorem dX8_hits_10 : decode cX8_hits 10 = .ok (.invokevirtual 196, 3) := by decide +kernel
theorem dX8_hits_13 : decode cX8_hits 13 = .ok (.ifCond .eq 6, 3) := by decide +kernel
theorem dX8_hits_16 : decode cX8_hits 16 = .ok (.bipush (-2), 2) := by decide +kernel
theorem dX8_hits_18 : decode cX8_hits 18 = .ok (.ireturn, 1) := by decide +kernel
theorem dX8_hits_19 : decode cX8_hits 19 = .ok (.aload_n 0, 1) := by decide +kernel
theorem dX8_hits_20 : decode cX8_hits 20 = .ok (.getfield 47, 3) := by decide +kernel
theorem dX8_hits_23 : decode cX8_hits 23 = .ok (.iload_n 2, 1) := by decide +kernel
theorem dX8_hits_24 : decode cX8_hits 24 = .ok (.invokevirtual 229, 3) := by decide +kernel
theorem dX8_hits_27 : decode cX8_hits 27 = .ok (.aload_n 0, 1) := by decide +kernel
theorem dX8_hits_28 : decode cX8_hits 28 = .ok (.getfield 47, 3) := by decide +kernel
theorem dX8_hits_31 : decode cX8_hits 31 = .ok (.getfield 232, 3) := by decide +kernel
theorem dX8_hits_34 : decode cX8_hits 34 = .ok (.iload_n 1, 1) := by decide +kernel
theorem dX8_hits_35 : decode cX8_hits 35 = .ok (.iaload, 1) := by decide +kernel
theorem dX8_hits_36 : decode cX8_hits 36 = .ok (.ireturn, 1) := by decide +kernel
theorem dX8_hot_0 : decode cX8_hot 0 = .ok (.aload_n 0, 1) := by decide +kernel
theorem dX8_hot_1 : decode cX8_hot 1 = .ok (.iload_n 1, 1) := by decide +kernel
theorem dX8_hot_2 : decode cX8_hot 2 = .ok (.invokevirtual 196, 3) := by decide +kernel
theorem dX8_hot_5 : decode cX8_hot 5 = .ok (.ifCond .eq 6, 3) := by decide +kernel
theorem dX8_hot_8 : decode cX8_hot 8 = .ok (.bipush (-2), 2) := by decide +kernel
theorem dX8_hot_10 : decode cX8_hot 10 = .ok (.ireturn, 1) := by decide +kernel
theorem dX8_hot_11 : decode cX8_hot 11 = .ok (.iconst (-1), 1) := by decide +kernel
theorem dX8_hot_12 : decode cX8_hot 12 = .ok (.istore_n 2, 1) := by decide +kernel
theorem dX8_hot_13 : decode cX8_hot 13 = .ok (.iconst 0, 1) := by decide +kernel
theorem dX8_hot_14 : decode cX8_hot 14 = .ok (.istore_n 3, 1) := by decide +kernel
theorem dX8_hot_15 : decode cX8_hot 15 = .ok (.iconst 0, 1) := by decide +kernel
theorem dX8_hot_16 : decode cX8_hot 16 = .ok (.istore 4, 2) := by decide +kernel
theorem dX8_hot_18 : decode cX8_hot 18 = .ok (.iload 4, 2) := by decide +kernel
theorem dX8_hot_20 : decode cX8_hot 20 = .ok (.aload_n 0, 1) := by decide +kernel
theorem dX8_hot_21 : decode cX8_hot 21 = .ok (.getfield 38, 3) := by decide +kernel
theorem dX8_hot_24 : decode cX8_hot 24 = .ok (.getfield 123, 3) := by decide +kernel
theorem dX8_hot_27 : decode cX8_hot 27 = .ok (.if_icmp .ge 33, 3) := by decide +kernel
theorem dX8_hot_30 : decode cX8_hot 30 = .ok (.aload_n 0, 1) := by decide +kernel
theorem dX8_hot_31 : decode cX8_hot 31 = .ok (.getfield 47, 3) := by decide +kernel
theorem dX8_hot_34 : decode cX8_hot 34 = .ok (.iload 4, 2) := by decide +kernel
theorem dX8_hot_36 : decode cX8_hot 36 = .ok (.iload_n 1, 1) := by decide +kernel
theorem dX8_hot_37 : decode cX8_hot 37 = .ok (.invokevirtual 211, 3) := by decide +kernel
theorem dX8_hot_40 : decode cX8_hot 40 = .ok (.istore 5, 2) := by decide +kernel
theorem dX8_hot_42 : decode cX8_hot 42 = .ok (.iload 5, 2) := by decide +kernel
theorem dX8_hot_44 : decode cX8_hot 44 = .ok (.iload_n 3, 1) := by decide +kernel
theorem dX8_hot_45 : decode cX8_hot 45 = .ok (.if_icmp .le 9, 3) := by decide +kernel
theorem dX8_hot_48 : decode cX8_hot 48 = .ok (.iload 5, 2) := by decide +kernel
theorem dX8_hot_50 : decode cX8_hot 50 = .ok (.istore_n 3, 1) := by decide +kernel
theorem dX8_hot_51 : decode cX8_hot 51 = .ok (.iload 4, 2) := by decide +kernel
theorem dX8_hot_53 : decode cX8_hot 53 = .ok (.istore_n 2, 1) := by decide +kernel
theorem dX8_hot_54 : decode cX8_hot 54 = .ok (.iinc 4 1, 3) := by decide +kernel
theorem dX8_hot_57 : decode cX8_hot 57 = .ok (.goto (-39), 3) := by decide +kernel
theorem dX8_hot_60 : decode cX8_hot 60 = .ok (.iload_n 2, 1) := by decide +kernel
theorem dX8_hot_61 : decode cX8_hot 61 = .ok (.ireturn, 1) := by decide +kernel
theorem dX8_known_0 : decode cX8_known 0 = .ok (.aload_n 0, 1) := by decide +kernel
theorem dX8_known_1 : decode cX8_known 1 = .ok (.iload_n 1, 1) := by decide +kernel
theorem dX8_known_2 : decode cX8_known 2 = .ok (.invokevirtual 108, 3) := by decide +kernel
theorem dX8_known_5 : decode cX8_known 5 = .ok (.ifCond .eq 6, 3) := by decide +kernel
theorem dX8_known_8 : decode cX8_known 8 = .ok (.bipush (-2), 2) := by decide +kernel
theorem dX8_known_10 : decode cX8_known 10 = .ok (.ireturn, 1) := by decide +kernel
theorem dX8_known_11 : decode cX8_known 11 = .ok (.aload_n 0, 1) := by decide +kernel
theorem dX8_known_12 : decode cX8_known 12 = .ok (.getfield 23, 3) := by decide +kernel
theorem dX8_known_15 : decode cX8_known 15 = .ok (.getfield 111, 3) := by decide +kernel
theorem dX8_known_18 : decode cX8_known 18 = .ok (.iload_n 1, 1) := by decide +kernel
theorem dX8_known_19 : decode cX8_known 19 = .ok (.iconst 5, 1) := by decide +kernel
theorem dX8_known_20 : decode cX8_known 20 = .ok (.imul, 1) := by decide +kernel
theorem dX8_known_21 : decode cX8_known 21 = .ok (.iaload, 1) := by decide +kernel
theorem dX8_known_22 : decode cX8_known 22 = .ok (.istore_n 2, 1) := by decide +kernel
theorem dX8_known_23 : decode cX8_known 23 = .ok (.aload_n 0, 1) := by decide +kernel
theorem dX8_known_24 : decode cX8_known 24 = .ok (.getfield 23, 3) := by decide +kernel
theorem dX8_known_27 : decode cX8_known 27 = .ok (.getfield 111, 3) := by decide +kernel
theorem dX8_known_30 : decode cX8_known 30 = .ok (.iload_n 1, 1) := by decide +kernel
theorem dX8_known_31 : decode cX8_known 31 = .ok (.iconst 5, 1) := by decide +kernel
theorem dX8_known_32 : decode cX8_known 32 = .ok (.imul, 1) := by decide +kernel
theorem dX8_known_33 : decode cX8_known 33 = .ok (.iconst 1, 1) := by decide +kernel
theorem dX8_known_34 : decode cX8_known 34 = .ok (.iadd, 1) := by decide +kernel
theorem dX8_known_35 : decode cX8_known 35 = .ok (.iaload, 1) := by decide +kernel
theorem dX8_known_36 : decode cX8_known 36 = .ok (.istore_n 3, 1) := by decide +kernel
theorem dX8_known_37 : decode cX8_known 37 = .ok (.iload_n 2, 1) := by decide +kernel
theorem dX8_known_38 : decode cX8_known 38 = .ok (.ifCond .eq 8, 3) := by decide +kernel
theorem dX8_known_41 : decode cX8_known 41 = .ok (.iload_n 2, 1) := by decide +kernel
theorem dX8_known_42 : decode cX8_known 42 = .ok (.iconst 1, 1) := by decide +kernel
theorem dX8_known_43 : decode cX8_known 43 = .ok (.if_icmp .ne 7, 3) := by decide +kernel
theorem dX8_known_46 : decode cX8_known 46 = .ok (.iconst 1, 1) := by decide +kernel
theorem dX8_known_47 : decode cX8_known 47 = .ok (.goto 4, 3) := by decide +kernel
theorem dX8_known_50 : decode cX8_known 50 = .ok (.iconst 0, 1) := by decide +kernel
theorem dX8_known_51 : decode cX8_known 51 = .ok (.istore 4, 2) := by decide +kernel
theorem dX8_known_53 : decode cX8_known 53 = .ok (.iload 4, 2) := by decide +kernel
theorem dX8_known_55 : decode cX8_known 55 = .ok (.ifCond .eq 28, 3) := by decide +kernel
theorem dX8_known_58 : decode cX8_known 58 = .ok (.aload_n 0, 1) := by decide +kernel
theorem dX8_known_59 : decode cX8_known 59 = .ok (.iload_n 3, 1) := by decide +kernel
theorem dX8_known_60 : decode cX8_known 60 = .ok (.invokevirtual 100, 3) := by decide +kernel
theorem dX8_known_63 : decode cX8_known 63 = .ok (.ifCond .ne 20, 3) := by decide +kernel
theorem dX8_known_66 : decode cX8_known 66 = .ok (.aload_n 0, 1) := by decide +kernel
theorem dX8_known_67 : decode cX8_known 67 = .ok (.getfield 23, 3) := by decide +kernel
theorem dX8_known_70 : decode cX8_known 70 = .ok (.getfield 104, 3) := by decide +kernel
theorem dX8_known_73 : decode cX8_known 73 = .ok (.iload_n 3, 1) := by decide +kernel
theorem dX8_known_74 : decode cX8_known 74 = .ok (.iaload, 1) := by decide +kernel
theorem dX8_known_75 : decode cX8_known 75 = .ok (.iconst 2, 1) := by decide +kernel
theorem dX8_known_76 : decode cX8_known 76 = .ok (.if_icmp .eq 7, 3) := by decide +kernel
theorem dX8_known_79 : decode cX8_known 79 = .ok (.iconst 1, 1) := by decide +kernel
theorem dX8_known_80 : decode cX8_known 80 = .ok (.goto 4, 3) := by decide +kernel
theorem dX8_known_83 : decode cX8_known 83 = .ok (.iconst 0, 1) := by decide +kernel
theorem dX8_known_84 : decode cX8_known 84 = .ok (.ireturn, 1) := by decide +kernel
theorem dX8_least_0 : decode cX8_least 0 = .ok (.aload_n 0, 1) := by decide +kernel
theorem dX8_least_1 : decode cX8_least 1 = .ok (.iload_n 1, 1) := by decide +kernel
theorem dX8_least_2 : decode cX8_least 2 = .ok (.invokevirtual 196, 3) := by decide +kernel
theorem dX8_least_5 : decode cX8_least 5 = .ok (.ifCond .ne 12, 3) := by decide +kernel
theorem dX8_least_8 : decode cX8_least 8 = .ok (.iload_n 2, 1) := by decide +kernel
theorem dX8_least_9 : decode cX8_least 9 = .ok (.ifCond .lt 8, 3) := by decide +kernel
theorem dX8_least_12 : decode cX8_least 12 = .ok (.iload_n 2, 1) := by decide +kernel
theorem dX8_least_13 : decode cX8_least 13 = .ok (.iconst 4, 1) := by decide +kernel
theorem dX8_least_14 : decode cX8_least 14 = .ok (.if_icmp .le 6, 3) := by decide +kernel
theorem dX8_least_17 : decode cX8_least 17 = .ok (.bipush (-2), 2) := by decide +kernel
theorem dX8_least_19 : decode cX8_least 19 = .ok (.ireturn, 1) := by decide +kernel
theorem dX8_least_20 : decode cX8_least 20 = .ok (.aload_n 0, 1) := by decide +kernel
theorem dX8_least_21 : decode cX8_least 21 = .ok (.getfield 47, 3) := by decide +kernel
theorem dX8_least_24 : decode cX8_least 24 = .ok (.iload_n 1, 1) := by decide +kernel
theorem dX8_least_25 : decode cX8_least 25 = .ok (.invokevirtual 223, 3) := by decide +kernel
theorem dX8_least_28 : decode cX8_least 28 = .ok (.ifCond .eq 15, 3) := by decide +kernel
theorem dX8_least_31 : decode cX8_least 31 = .ok (.aload_n 0, 1) := by decide +kernel
theorem dX8_least_32 : decode cX8_least 32 = .ok (.getfield 47, 3) := by decide +kernel
theorem dX8_least_35 : decode cX8_least 35 = .ok (.getfield 226, 3) := by decide +kernel
theorem dX8_least_38 : decode cX8_least 38 = .ok (.iload_n 2, 1) := by decide +kernel
theorem dX8_least_39 : decode cX8_least 39 = .ok (.iaload, 1) := by decide +kernel
theorem dX8_least_40 : decode cX8_least 40 = .ok (.goto 4, 3) := by decide +kernel
theorem dX8_least_43 : decode cX8_least 43 = .ok (.iconst (-1), 1) := by decide +kernel
theorem dX8_least_44 : decode cX8_least 44 = .ok (.ireturn, 1) := by decide +kernel
theorem dX8_locks_0 : decode cX8_locks 0 = .ok (.aload_n 0, 1) := by decide +kernel
theorem dX8_locks_1 : decode cX8_locks 1 = .ok (.iload_n 1, 1) := by decide +kernel
theorem dX8_locks_2 : decode cX8_locks 2 = .ok (.invokevirtual 196, 3) := by decide +kernel
theorem dX8_locks_5 : decode cX8_locks 5 = .ok (.ifCond .eq 8, 3) := by decide +kernel
theorem dX8_locks_8 : decode cX8_locks 8 = .ok (.bipush (-2), 2) := by decide +kernel
theorem dX8_locks_10 : decode cX8_locks 10 = .ok (.goto 11, 3) := by decide +kernel
theorem dX8_locks_13 : decode cX8_locks 13 = .ok (.aload_n 0, 1) := by decide +kernel
theorem dX8_locks_14 : decode cX8_locks 14 = .ok (.getfield 47, 3) := by decide +kernel
theorem dX8_locks_17 : decode cX8_locks 17 = .ok (.iload_n 1, 1) := by decide +kernel
theorem dX8_locks_18 : decode cX8_locks 18 = .ok (.invokevirtual 238, 3) := by decide +kernel
theorem dX8_locks_21 : decode cX8_locks 21 = .ok (.ireturn, 1) := by decide +kernel
theorem dX8_needed_0 : decode cX8_needed 0 = .ok (.aload_n 0, 1) := by decide +kernel
theorem dX8_needed_1 : decode cX8_needed 1 = .ok (.iload_n 1, 1) := by decide +kernel
theorem dX8_needed_2 : decode cX8_needed 2 = .ok (.invokevirtual 196, 3) := by decide +kernel
theorem dX8_needed_5 : decode cX8_needed 5 = .ok (.ifCond .eq 8, 3) := by decide +kernel
theorem dX8_needed_8 : decode cX8_needed 8 = .ok (.bipush (-2), 2) := by decide +kernel
theorem dX8_needed_10 : decode cX8_needed 10 = .ok (.goto 11, 3) := by decide +kernel
theorem dX8_needed_13 : decode cX8_needed 13 = .ok (.aload_n 0, 1) := by decide +kernel
theorem dX8_needed_14 : decode cX8_needed 14 = .ok (.getfield 47, 3) := by decide +kernel
theorem dX8_needed_17 : decode cX8_needed 17 = .ok (.iload_n 1, 1) := by decide +kernel
theorem dX8_needed_18 : decode cX8_needed 18 = .ok (.invokevirtual 245, 3) := by decide +kernel
theorem dX8_needed_21 : decode cX8_needed 21 = .ok (.ireturn, 1) := by decide +kernel
theorem dX8_pairs_0 : decode cX8_pairs 0 = .ok (.aload_n 0, 1) := by decide +kernel
theorem dX8_pairs_1 : decode cX8_pairs 1 = .ok (.iload_n 1, 1) := by decide +kernel
theorem dX8_pairs_2 : decode cX8_pairs 2 = .ok (.invokevirtual 196, 3) := by decide +kernel
theorem dX8_pairs_5 : decode cX8_pairs 5 = .ok (.ifCond .eq 8, 3) := by decide +kernel
theorem dX8_pairs_8 : decode cX8_pairs 8 = .ok (.bipush (-2), 2) := by decide +kernel
theorem dX8_pairs_10 : decode cX8_pairs 10 = .ok (.goto 11, 3) := by decide +kernel
theorem dX8_pairs_13 : decode cX8_pairs 13 = .ok (.aload_n 0, 1) := by decide +kernel
theorem dX8_pairs_14 : decode cX8_pairs 14 = .ok (.getfield 47, 3) := by decide +kernel
theorem dX8_pairs_17 : decode cX8_pairs 17 = .ok (.iload_n 1, 1) := by decide +kernel
theorem dX8_pairs_18 : decode cX8_pairs 18 = .ok (.invokevirtual 217, 3) := by decide +kernel
theorem dX8_pairs_21 : decode cX8_pairs 21 = .ok (.ireturn, 1) := by decide +kernel
theorem dX8_safe_0 : decode cX8_safe 0 = .ok (.aload_n 0, 1) := by decide +kernel
theorem dX8_safe_1 : decode cX8_safe 1 = .ok (.iload_n 1, 1) := by decide +kernel
theorem dX8_safe_2 : decode cX8_safe 2 = .ok (.invokevirtual 196, 3) := by decide +kernel
theorem dX8_safe_5 : decode cX8_safe 5 = .ok (.ifCond .eq 6, 3) := by decide +kernel
theorem dX8_safe_8 : decode cX8_safe 8 = .ok (.bipush (-2), 2) := by decide +kernel
theorem dX8_safe_10 : decode cX8_safe 10 = .ok (.ireturn, 1) := by decide +kernel
theorem dX8_safe_11 : decode cX8_safe 11 = .ok (.aload_n 0, 1) := by decide +kernel
theorem dX8_safe_12 : decode cX8_safe 12 = .ok (.getfield 47, 3) := by decide +kernel
theorem dX8_safe_15 : decode cX8_safe 15 = .ok (.iload_n 1, 1) := by decide +kernel
theorem dX8_safe_16 : decode cX8_safe 16 = .ok (.invokevirtual 220, 3) := by decide +kernel
theorem dX8_safe_19 : decode cX8_safe 19 = .ok (.ifCond .eq 7, 3) := by decide +kernel
theorem dX8_safe_22 : decode cX8_safe 22 = .ok (.iconst 1, 1) := by decide +kernel
theorem dX8_safe_23 : decode cX8_safe 23 = .ok (.goto 4, 3) := by decide +kernel
theorem dX8_safe_26 : decode cX8_safe 26 = .ok (.iconst 0, 1) := by decide +kernel
theorem dX8_safe_27 : decode cX8_safe 27 = .ok (.ireturn, 1) := by decide +kernel
theorem dX8_worst_0 : decode cX8_worst 0 = .ok (.aload_n 0, 1) := by decide +kernel
theorem dX8_worst_1 : decode cX8_worst 1 = .ok (.iload_n 1, 1) := by decide +kernel
theorem dX8_worst_2 : decode cX8_worst 2 = .ok (.invokevirtual 196, 3) := by decide +kernel
theorem dX8_worst_5 : decode cX8_worst 5 = .ok (.ifCond .eq 6, 3) := by decide +kernel
theorem dX8_worst_8 : decode cX8_worst 8 = .ok (.bipush (-2), 2) := by decide +kernel
theorem dX8_worst_10 : decode cX8_worst 10 = .ok (.ireturn, 1) := by decide +kernel
theorem dX8_worst_11 : decode cX8_worst 11 = .ok (.aload_n 0, 1) := by decide +kernel
theorem dX8_worst_12 : decode cX8_worst 12 = .ok (.getfield 47, 3) := by decide +kernel
theorem dX8_worst_15 : decode cX8_worst 15 = .ok (.iload_n 1, 1) := by decide +kernel
theorem dX8_worst_16 : decode cX8_worst 16 = .ok (.invokevirtual 229, 3) := by decide +kernel
theorem dX8_worst_19 : decode cX8_worst 19 = .ok (.iconst (-1), 1) := by decide +kernel
theorem dX8_worst_20 : decode cX8_worst 20 = .ok (.istore_n 2, 1) := by decide +kernel
theorem dX8_worst_21 : decode cX8_worst 21 = .ok (.iconst 0, 1) := by decide +kernel
theorem dX8_worst_22 : decode cX8_worst 22 = .ok (.istore_n 3, 1) := by decide +kernel
theorem dX8_worst_23 : decode cX8_worst 23 = .ok (.iconst 0, 1) := by decide +kernel
theorem dX8_worst_24 : decode cX8_worst 24 = .ok (.istore 4, 2) := by decide +kernel
theorem dX8_worst_26 : decode cX8_worst 26 = .ok (.iload 4, 2) := by decide +kernel
theorem dX8_worst_28 : decode cX8_worst 28 = .ok (.aload_n 0, 1) := by decide +kernel
theorem dX8_worst_29 : decode cX8_worst 29 = .ok (.getfield 23, 3) := by decide +kernel
theorem dX8_worst_32 : decode cX8_worst 32 = .ok (.getfield 164, 3) := by decide +kernel
theorem dX8_worst_35 : decode cX8_worst 35 = .ok (.if_icmp .ge 37, 3) := by decide +kernel
theorem dX8_worst_38 : decode cX8_worst 38 = .ok (.aload_n 0, 1) := by decide +kernel
theorem dX8_worst_39 : decode cX8_worst 39 = .ok (.getfield 47, 3) := by decide +kernel
theorem dX8_worst_42 : decode cX8_worst 42 = .ok (.getfield 232, 3) := by decide +kernel
theorem dX8_worst_45 : decode cX8_worst 45 = .ok (.iload 4, 2) := by decide +kernel
theorem dX8_worst_47 : decode cX8_worst 47 = .ok (.iaload, 1) := by decide +kernel
theorem dX8_worst_48 : decode cX8_worst 48 = .ok (.iload_n 3, 1) := by decide +kernel
theorem dX8_worst_49 : decode cX8_worst 49 = .ok (.if_icmp .le 17, 3) := by decide +kernel
theorem dX8_worst_52 : decode cX8_worst 52 = .ok (.aload_n 0, 1) := by decide +kernel
theorem dX8_worst_53 : decode cX8_worst 53 = .ok (.getfield 47, 3) := by decide +kernel
theorem dX8_worst_56 : decode cX8_worst 56 = .ok (.getfield 232, 3) := by decide +kernel
theorem dX8_worst_59 : decode cX8_worst 59 = .ok (.iload 4, 2) := by decide +kernel
theorem dX8_worst_61 : decode cX8_worst 61 = .ok (.iaload, 1) := by decide +kernel
theorem dX8_worst_62 : decode cX8_worst 62 = .ok (.istore_n 3, 1) := by decide +kernel
theorem dX8_worst_63 : decode cX8_worst 63 = .ok (.iload 4, 2) := by decide +kernel
theorem dX8_worst_65 : decode cX8_worst 65 = .ok (.istore_n 2, 1) := by decide +kernel
theorem dX8_worst_66 : decode cX8_worst 66 = .ok (.iinc 4 1, 3) := by decide +kernel
theorem dX8_worst_69 : decode cX8_worst 69 = .ok (.goto (-43), 3) := by decide +kernel
theorem dX8_worst_72 : decode cX8_worst 72 = .ok (.iload_n 2, 1) := by decide +kernel
theorem dX8_worst_73 : decode cX8_worst 73 = .ok (.ireturn, 1) := by decide +kernel
theorem iuX8_all_X8 : ∀ w ∈ u_ws RX8 TX8 10, w ∈ W_X8_all := fun w h => List.mem_cons_of_mem _ (List.mem_append_right _ (List.mem_append_left _ (h)))
theorem iuX8_alone_X8 : ∀ w ∈ u_ws RX8 TX8 10, w ∈ W_X8_alone := fun w h => List.mem_cons_of_mem _ (List.mem_append_right _ (List.mem_append_left _ (h)))
theorem iuX8_bad_X8 : ∀ w ∈ u_ws RX8 TX8 10, w ∈ W_X8_bad := fun w h => List.mem_cons_of_mem _ (List.mem_append_right _ (List.mem_append_left _ (h)))
theorem iuX8_bare_X6 : ∀ w ∈ u_ws RX6 TX6 8, w ∈ W_X8_bare := fun w h => List.mem_cons_of_mem _ (List.mem_append_right _ (List.mem_append_right _ (List.mem_append_left _ (h))))
theorem iuX8_bare_X8 : ∀ w ∈ u_ws RX8 TX8 10, w ∈ W_X8_bare := fun w h => List.mem_cons_of_mem _ (List.mem_append_right _ (List.mem_append_left _ (h)))
theorem iuX8_blame_X0 : ∀ w ∈ u_ws RX0 TX0 15, w ∈ W_X8_blame := fun w h => List.mem_cons_of_mem _ (List.mem_append_right _ (List.mem_append_right _ (List.mem_append_left _ (h))))
theorem iuX8_blame_X8 : ∀ w ∈ u_ws RX8 TX8 10, w ∈ W_X8_blame := fun w h => List.mem_cons_of_mem _ (List.mem_append_right _ (List.mem_append_left _ (h)))
theorem iuX8_bound_X8 : ∀ w ∈ u_ws RX8 TX8 10, w ∈ W_X8_bound := fun w h => List.mem_cons_of_mem _ (List.mem_append_right _ (List.mem_append_left _ (h)))
theorem iuX8_calm_X8 : ∀ w ∈ u_ws RX8 TX8 10, w ∈ W_X8_calm := fun w h => List.mem_cons_of_mem _ (List.mem_append_right _ (List.mem_append_left _ (h)))
theorem iuX8_culprit_X2 : ∀ w ∈ u_ws RX2 TX2 12, w ∈ W_X8_culprit := fun w h => List.mem_cons_of_mem _ (List.mem_append_right _ (List.mem_append_right _ (List.mem_append_left _ (h))))
theorem iuX8_culprit_X8 : ∀ w ∈ u_ws RX8 TX8 10, w ∈ W_X8_culprit := fun w h => List.mem_cons_of_mem _ (List.mem_append_right _ (List.mem_append_left _ (h)))
theorem iuX8_cure_X0 : ∀ w ∈ u_ws RX0 TX0 15, w ∈ W_X8_cure := fun w h => List.mem_cons_of_mem _ (List.mem_append_right _ (List.mem_append_right _ (List.mem_append_left _ (h))))
theorem iuX8_cure_X8 : ∀ w ∈ u_ws RX8 TX8 10, w ∈ W_X8_cure := fun w h => List.mem_cons_of_mem _ (List.mem_append_right _ (List.mem_append_left _ (h)))
theorem iuX8_fewest_X8 : ∀ w ∈ u_ws RX8 TX8 10, w ∈ W_X8_fewest := fun w h => List.mem_cons_of_mem _ (List.mem_append_right _ (List.mem_append_left _ (h)))
theorem iuX8_fine_X0 : ∀ w ∈ u_ws RX0 TX0 15, w ∈ W_X8_fine := fun w h => List.mem_cons_of_mem _ (List.mem_append_right _ (List.mem_append_right _ (List.mem_append_left _ (h))))
theorem iuX8_fine_X8 : ∀ w ∈ u_ws RX8 TX8 10, w ∈ W_X8_fine := fun w h => List.mem_cons_of_mem _ (List.mem_append_right _ (List.mem_append_left _ (h)))
theorem iuX8_hits_X2 : ∀ w ∈ u_ws RX2 TX2 12, w ∈ W_X8_hits := fun w h => List.mem_cons_of_mem _ (List.mem_append_right _ (List.mem_append_right _ (List.mem_append_left _ (h))))
theorem iuX8_hits_X8 : ∀ w ∈ u_ws RX8 TX8 10, w ∈ W_X8_hits := fun w h => List.mem_cons_of_mem _ (List.mem_append_right _ (List.mem_append_left _ (h)))
theorem iuX8_hot_X6 : ∀ w ∈ u_ws RX6 TX6 8, w ∈ W_X8_hot := fun w h => List.mem_cons_of_mem _ (List.mem_append_right _ (List.mem_append_right _ (List.mem_append_left _ (h))))
theorem iuX8_hot_X8 : ∀ w ∈ u_ws RX8 TX8 10, w ∈ W_X8_hot := fun w h => List.mem_cons_of_mem _ (List.mem_append_right _ (List.mem_append_left _ (h)))
theorem iuX8_known_X0 : ∀ w ∈ u_ws RX0 TX0 15, w ∈ W_X8_known := fun w h => List.mem_cons_of_mem _ (List.mem_append_right _ (List.mem_append_right _ (List.mem_append_left _ (h))))
theorem iuX8_known_X8 : ∀ w ∈ u_ws RX8 TX8 10, w ∈ W_X8_known := fun w h => List.mem_cons_of_mem _ (List.mem_append_right _ (List.mem_append_left _ (h)))
theorem iuX8_least_X2 : ∀ w ∈ u_ws RX2 TX2 12, w ∈ W_X8_least := fun w h => List.mem_cons_of_mem _ (List.mem_append_right _ (List.mem_append_right _ (List.mem_append_left _ (h))))
theorem iuX8_least_X8 : ∀ w ∈ u_ws RX8 TX8 10, w ∈ W_X8_least := fun w h => List.mem_cons_of_mem _ (List.mem_append_right _ (List.mem_append_left _ (h)))
theorem iuX8_locks_X8 : ∀ w ∈ u_ws RX8 TX8 10, w ∈ W_X8_locks := fun w h => List.mem_cons_of_mem _ (List.mem_append_right _ (List.mem_append_left _ (h)))
theorem iuX8_needed_X8 : ∀ w ∈ u_ws RX8 TX8 10, w ∈ W_X8_needed := fun w h => List.mem_cons_of_mem _ (List.mem_append_right _ (List.mem_append_left _ (h)))
theorem iuX8_pairs_X8 : ∀ w ∈ u_ws RX8 TX8 10, w ∈ W_X8_pairs := fun w h => List.mem_cons_of_mem _ (List.mem_append_right _ (List.mem_append_left _ (h)))
theorem iuX8_safe_X8 : ∀ w ∈ u_ws RX8 TX8 10, w ∈ W_X8_safe := fun w h => List.mem_cons_of_mem _ (List.mem_append_right _ (List.mem_append_left _ (h)))
theorem iuX8_worst_X0 : ∀ w ∈ u_ws RX0 TX0 15, w ∈ W_X8_worst := fun w h => List.mem_cons_of_mem _ (List.mem_append_right _ (List.mem_append_right _ (List.mem_append_left _ (h))))
theorem iuX8_worst_X2 : ∀ w ∈ u_ws RX2 TX2 12, w ∈ W_X8_worst := fun w h => List.mem_cons_of_mem _ (List.mem_append_right _ (List.mem_append_right _ (List.mem_append_right _ (List.mem_append_left _ (h)))))
theorem iuX8_worst_X8 : ∀ w ∈ u_ws RX8 TX8 10, w ∈ W_X8_worst := fun w h => List.mem_cons_of_mem _ (List.mem_append_right _ (List.mem_append_left _ (h)))
theorem gw_X8_all_X8_noDepth : GoodIn W_X8_all W_X8_noDepth := fun w h => ⟨List.mem_cons_of_mem _ (List.mem_append_right _ (List.mem_append_right _ (List.mem_append_left _ (h)))), (wI_X8_noDepth w h).2⟩
theorem gc_X8_all_196_X8_noDepth : GoodIn W_X8_all (wsV RX8 196 RX8 yX8_noDepth W_X8_noDepth) := goodIn_app (goodIn_sub (List.forall_mem_cons.mpr ⟨List.mem_cons_of_mem _ (List.mem_append_left _ (List.mem_of_getElem? (i := 0) rfl)), List.forall_mem_cons.mpr ⟨List.mem_cons_of_mem _ (List.mem_append_left _ (List.mem_of_getElem? (i := 1) rfl)), List.forall_mem_cons.mpr ⟨List.mem_cons_of_mem _ (List.mem_append_left _ (List.mem_of_getElem? (i := 2) rfl)), List.forall_mem_cons.mpr ⟨List.mem_cons_of_mem _ (List.mem_append_left _ (List.mem_of_getElem? (i := 3) rfl)), fun _ h => absurd h List.not_mem_nil⟩⟩⟩⟩) (by decide +kernel)) gw_X8_all_X8_noDepth
theorem gw_X8_all_X2_total : GoodIn W_X8_all W_X2_total := fun w h => ⟨List.mem_cons_of_mem _ (List.mem_append_right _ (List.mem_append_right _ (List.mem_append_right _ (h)))), (wI_X2_total w h).2⟩
theorem gc_X8_all_214_X2_total : GoodIn W_X8_all (wsV RX8 214 RX2 yX2_total W_X2_total) := goodIn_app (goodIn_sub (List.forall_mem_cons.mpr ⟨List.mem_cons_of_mem _ (List.mem_append_left _ (List.mem_of_getElem? (i := 5) rfl)), List.forall_mem_cons.mpr ⟨List.mem_cons_of_mem _ (List.mem_append_left _ (List.mem_of_getElem? (i := 6) rfl)), List.forall_mem_cons.mpr ⟨List.mem_cons_of_mem _ (List.mem_append_left _ (List.mem_of_getElem? (i := 7) rfl)), List.forall_mem_cons.mpr ⟨List.mem_cons_of_mem _ (List.mem_append_left _ (List.mem_of_getElem? (i := 8) rfl)), fun _ h => absurd h List.not_mem_nil⟩⟩⟩⟩) (by decide +kernel)) gw_X8_all_X2_total
theorem gw_X8_alone_X8_noRule : GoodIn W_X8_alone W_X8_noRule := fun w h => ⟨List.mem_cons_of_mem _ (List.mem_append_right _ (List.mem_append_right _ (List.mem_append_left _ (h)))), (wI_X8_noRule w h).2⟩
theorem gc_X8_alone_108_X8_noRule : GoodIn W_X8_alone (wsV RX8 108 RX8 yX8_noRule W_X8_noRule) := goodIn_app (goodIn_sub (List.forall_mem_cons.mpr ⟨List.mem_cons_of_mem _ (List.mem_append_left _ (List.mem_of_getElem? (i := 0) rfl)), List.forall_mem_cons.mpr ⟨List.mem_cons_of_mem _ (List.mem_append_left _ (List.mem_of_getElem? (i := 1) rfl)), List.forall_mem_cons.mpr ⟨List.mem_cons_of_mem _ (List.mem_append_left _ (List.mem_of_getElem? (i := 2) rfl)), List.forall_mem_cons.mpr ⟨List.mem_cons_of_mem _ (List.mem_append_left _ (List.mem_of_getElem? (i := 3) rfl)), fun _ h => absurd h List.not_mem_nil⟩⟩⟩⟩) (by decide +kernel)) gw_X8_alone_X8_noRule
theorem gw_X8_alone_X8_noDepth : GoodIn W_X8_alone W_X8_noDepth := fun w h => ⟨List.mem_cons_of_mem _ (List.mem_append_right _ (List.mem_append_right _ (List.mem_append_right _ (List.mem_append_left _ (h))))), (wI_X8_noDepth w h).2⟩
theorem gc_X8_alone_196_X8_noDepth : GoodIn W_X8_alone (wsV RX8 196 RX8 yX8_noDepth W_X8_noDepth) := goodIn_app (goodIn_sub (List.forall_mem_cons.mpr ⟨List.mem_cons_of_mem _ (List.mem_append_left _ (List.mem_of_getElem? (i := 4) rfl)), List.forall_mem_cons.mpr ⟨List.mem_cons_of_mem _ (List.mem_append_left _ (List.mem_of_getElem? (i := 5) rfl)), List.forall_mem_cons.mpr ⟨List.mem_cons_of_mem _ (List.mem_append_left _ (List.mem_of_getElem? (i := 6) rfl)), List.forall_mem_cons.mpr ⟨List.mem_cons_of_mem _ (List.mem_append_left _ (List.mem_of_getElem? (i := 3) rfl)), fun _ h => absurd h List.not_mem_nil⟩⟩⟩⟩) (by decide +kernel)) gw_X8_alone_X8_noDepth
theorem gw_X8_alone_X2_isSafeAlone : GoodIn W_X8_alone W_X2_isSafeAlone := fun w h => ⟨List.mem_cons_of_mem _ (List.mem_append_right _ (List.mem_append_right _ (List.mem_append_right _ (List.mem_append_right _ (h))))), (wI_X2_isSafeAlone w h).2⟩
theorem gc_X8_alone_235_X2_isSafeAlone : GoodIn W_X8_alone (wsV RX8 235 RX2 yX2_isSafeAlone W_X2_isSafeAlone) := goodIn_app (goodIn_sub (List.forall_mem_cons.mpr ⟨List.mem_cons_of_mem _ (List.mem_append_left _ (List.mem_of_getElem? (i := 8) rfl)), List.forall_mem_cons.mpr ⟨List.mem_cons_of_mem _ (List.mem_append_left _ (List.mem_of_getElem? (i := 9) rfl)), List.forall_mem_cons.mpr ⟨List.mem_cons_of_mem _ (List.mem_append_left _ (List.mem_of_getElem? (i := 10) rfl)), List.forall_mem_cons.mpr ⟨List.mem_cons_of_mem _ (List.mem_append_left _ (List.mem_of_getElem? (i := 11) rfl)), fun _ h => absurd h List.not_mem_nil⟩⟩⟩⟩) (by decide +kernel)) gw_X8_alone_X2_isSafeAlone
theorem gw_X8_bad_X8_noState : GoodIn W_X8_bad W_X8_noState := fun w h => ⟨List.mem_cons_of_mem _ (List.mem_append_right _ (List.mem_append_right _ (List.mem_append_left _ (h)))), (wI_X8_noState w h).2⟩
theorem gc_X8_bad_124_X8_noState : GoodIn W_X8_bad (wsV RX8 124 RX8 yX8_noState W_X8_noState) := goodIn_app (goodIn_sub (List.forall_mem_cons.mpr ⟨List.mem_cons_of_mem _ (List.mem_append_left _ (List.mem_of_getElem? (i := 0) rfl)), List.forall_mem_cons.mpr ⟨List.mem_cons_of_mem _ (List.mem_append_left _ (List.mem_of_getElem? (i := 1) rfl)), List.forall_mem_cons.mpr ⟨List.mem_cons_of_mem _ (List.mem_append_left _ (List.mem_of_getElem? (i := 2) rfl)), List.forall_mem_cons.mpr ⟨List.mem_cons_of_mem _ (List.mem_append_left _ (List.mem_of_getElem? (i := 3) rfl)), fun _ h => absurd h List.not_mem_nil⟩⟩⟩⟩) (by decide +kernel)) gw_X8_bad_X8_noState
theorem gw_X8_bad_X8_noDepth : GoodIn W_X8_bad W_X8_noDepth := fun w h => ⟨List.mem_cons_of_mem _ (List.mem_append_right _ (List.mem_append_right _ (List.mem_append_right _ (List.mem_append_left _ (h))))), (wI_X8_noDepth w h).2⟩
theorem gc_X8_bad_196_X8_noDepth : GoodIn W_X8_bad (wsV RX8 196 RX8 yX8_noDepth W_X8_noDepth) := goodIn_app (goodIn_sub (List.forall_mem_cons.mpr ⟨List.mem_cons_of_mem _ (List.mem_append_left _ (List.mem_of_getElem? (i := 4) rfl)), List.forall_mem_cons.mpr ⟨List.mem_cons_of_mem _ (List.mem_append_left _ (List.mem_of_getElem? (i := 5) rfl)), List.forall_mem_cons.mpr ⟨List.mem_cons_of_mem _ (List.mem_append_left _ (List.mem_of_getElem? (i := 6) rfl)), List.forall_mem_cons.mpr ⟨List.mem_cons_of_mem _ (List.mem_append_left _ (List.mem_of_getElem? (i := 3) rfl)), fun _ h => absurd h List.not_mem_nil⟩⟩⟩⟩) (by decide +kernel)) gw_X8_bad_X8_noDepth
theorem gw_X8_bad_X2_breaksFrom : GoodIn W_X8_bad W_X2_breaksFrom := fun w h => ⟨List.mem_cons_of_mem _ (List.mem_append_right _ (List.mem_append_right _ (List.mem_append_right _ (List.mem_append_right _ (h))))), (wI_X2_breaksFrom w h).2⟩
theorem gc_X8_bad_211_X2_breaksFrom : GoodIn W_X8_bad (wsV RX8 211 RX2 yX2_breaksFrom W_X2_breaksFrom) := goodIn_app (goodIn_sub (List.forall_mem_cons.mpr ⟨List.mem_cons_of_mem _ (List.mem_append_left _ (List.mem_of_getElem? (i := 8) rfl)), List.forall_mem_cons.mpr ⟨List.mem_cons_of_mem _ (List.mem_append_left _ (List.mem_of_getElem? (i := 9) rfl)), List.forall_mem_cons.mpr ⟨List.mem_cons_of_mem _ (List.mem_append_left _ (List.mem_of_getElem? (i := 10) rfl)), List.forall_mem_cons.mpr ⟨List.mem_cons_of_mem _ (List.mem_append_left _ (List.mem_of_getElem? (i := 11) rfl)), fun _ h => absurd h List.not_mem_nil⟩⟩⟩⟩) (by decide +kernel)) gw_X8_bad_X2_breaksFrom
theorem gw_X8_bare_X8_noDepth : GoodIn W_X8_bare W_X8_noDepth := fun w h => ⟨List.mem_cons_of_mem _ (List.mem_append_right _ (List.mem_append_right _ (List.mem_append_right _ (List.mem_append_left _ (h))))), (wI_X8_noDepth w h).2⟩
theorem gc_X8_bare_196_X8_noDepth : GoodIn W_X8_bare (wsV RX8 196 RX8 yX8_noDepth W_X8_noDepth) := goodIn_app (goodIn_sub (List.forall_mem_cons.mpr ⟨List.mem_cons_of_mem _ (List.mem_append_left _ (List.mem_of_getElem? (i := 0) rfl)), List.forall_mem_cons.mpr ⟨List.mem_cons_of_mem _ (List.mem_append_left _ (List.mem_of_getElem? (i := 1) rfl)), List.forall_mem_cons.mpr ⟨List.mem_cons_of_mem _ (List.mem_append_left _ (List.mem_of_getElem? (i := 2) rfl)), List.forall_mem_cons.mpr ⟨List.mem_cons_of_mem _ (List.mem_append_left _ (List.mem_of_getElem? (i := 3) rfl)), fun _ h => absurd h List.not_mem_nil⟩⟩⟩⟩) (by decide +kernel)) gw_X8_bare_X8_noDepth
theorem gw_X8_bare_X2_breaksFrom : GoodIn W_X8_bare W_X2_breaksFrom := fun w h => ⟨List.mem_cons_of_mem _ (List.mem_append_right _ (List.mem_append_right _ (List.mem_append_right _ (List.mem_append_right _ (h))))), (wI_X2_breaksFrom w h).2⟩
theorem gc_X8_bare_211_X2_breaksFrom : GoodIn W_X8_bare (wsV RX8 211 RX2 yX2_breaksFrom W_X2_breaksFrom) := goodIn_app (goodIn_sub (List.forall_mem_cons.mpr ⟨List.mem_cons_of_mem _ (List.mem_append_left _ (List.mem_of_getElem? (i := 7) rfl)), List.forall_mem_cons.mpr ⟨List.mem_cons_of_mem _ (List.mem_append_left _ (List.mem_of_getElem? (i := 8) rfl)), List.forall_mem_cons.mpr ⟨List.mem_cons_of_mem _ (List.mem_append_left _ (List.mem_of_getElem? (i := 9) rfl)), List.forall_mem_cons.mpr ⟨List.mem_cons_of_mem _ (List.mem_append_left _ (List.mem_of_getElem? (i := 10) rfl)), fun _ h => absurd h List.not_mem_nil⟩⟩⟩⟩) (by decide +kernel)) gw_X8_bare_X2_breaksFrom
theorem gw_X8_blame_X8_isTold : GoodIn W_X8_blame W_X8_isTold := fun w h => ⟨List.mem_cons_of_mem _ (List.mem_append_right _ (List.mem_append_right _ (List.mem_append_right _ (List.mem_append_left _ (h))))), (wI_X8_isTold w h).2⟩
theorem gc_X8_blame_120_X8_isTold : GoodIn W_X8_blame (wsV RX8 120 RX8 yX8_isTold W_X8_isTold) := goodIn_app (goodIn_sub (List.forall_mem_cons.mpr ⟨List.mem_cons_of_mem _ (List.mem_append_left _ (List.mem_of_getElem? (i := 0) rfl)), List.forall_mem_cons.mpr ⟨List.mem_cons_of_mem _ (List.mem_append_left _ (List.mem_of_getElem? (i := 1) rfl)), List.forall_mem_cons.mpr ⟨List.mem_cons_of_mem _ (List.mem_append_left _ (List.mem_of_getElem? (i := 2) rfl)), List.forall_mem_cons.mpr ⟨List.mem_cons_of_mem _ (List.mem_append_left _ (List.mem_of_getElem? (i := 3) rfl)), fun _ h => absurd h List.not_mem_nil⟩⟩⟩⟩) (by decide +kernel)) gw_X8_blame_X8_isTold
theorem gw_X8_blame_X2_total : GoodIn W_X8_blame W_X2_total := fun w h => ⟨List.mem_cons_of_mem _ (List.mem_append_right _ (List.mem_append_right _ (List.mem_append_right _ (List.mem_append_right _ (List.mem_append_left _ (h)))))), (wI_X2_total w h).2⟩
theorem gc_X8_blame_214_X2_total : GoodIn W_X8_blame (wsV RX8 214 RX2 yX2_total W_X2_total) := goodIn_app (goodIn_sub (List.forall_mem_cons.mpr ⟨List.mem_cons_of_mem _ (List.mem_append_left _ (List.mem_of_getElem? (i := 5) rfl)), List.forall_mem_cons.mpr ⟨List.mem_cons_of_mem _ (List.mem_append_left _ (List.mem_of_getElem? (i := 6) rfl)), List.forall_mem_cons.mpr ⟨List.mem_cons_of_mem _ (List.mem_append_left _ (List.mem_of_getElem? (i := 7) rfl)), List.forall_mem_cons.mpr ⟨List.mem_cons_of_mem _ (List.mem_append_left _ (List.mem_of_getElem? (i := 8) rfl)), fun _ h => absurd h List.not_mem_nil⟩⟩⟩⟩) (by decide +kernel)) gw_X8_blame_X2_total
theorem gw_X8_blame_X2_totalWith : GoodIn W_X8_blame W_X2_totalWith := fun w h => ⟨List.mem_cons_of_mem _ (List.mem_append_right _ (List.mem_append_right _ (List.mem_append_right _ (List.mem_append_right _ (List.mem_append_right _ (h)))))), (wI_X2_totalWith w h).2⟩
theorem gc_X8_blame_248_X2_totalWith : GoodIn W_X8_blame (wsV RX8 248 RX2 yX2_totalWith W_X2_totalWith) := goodIn_app (goodIn_sub (List.forall_mem_cons.mpr ⟨List.mem_cons_of_mem _ (List.mem_append_left _ (List.mem_of_getElem? (i := 13) rfl)), List.forall_mem_cons.mpr ⟨List.mem_cons_of_mem _ (List.mem_append_left _ (List.mem_of_getElem? (i := 14) rfl)), List.forall_mem_cons.mpr ⟨List.mem_cons_of_mem _ (List.mem_append_left _ (List.mem_of_getElem? (i := 15) rfl)), List.forall_mem_cons.mpr ⟨List.mem_cons_of_mem _ (List.mem_append_left _ (List.mem_of_getElem? (i := 8) rfl)), fun _ h => absurd h List.not_mem_nil⟩⟩⟩⟩) (by decide +kernel)) gw_X8_blame_X2_totalWith
theorem gw_X8_bound_X8_isTold : GoodIn W_X8_bound W_X8_isTold := fun w h => ⟨List.mem_cons_of_mem _ (List.mem_append_right _ (List.mem_append_right _ (List.mem_append_left _ (h)))), (wI_X8_isTold w h).2⟩
theorem gc_X8_bound_120_X8_isTold : GoodIn W_X8_bound (wsV RX8 120 RX8 yX8_isTold W_X8_isTold) := goodIn_app (goodIn_sub (List.forall_mem_cons.mpr ⟨List.mem_cons_of_mem _ (List.mem_append_left _ (List.mem_of_getElem? (i := 0) rfl)), List.forall_mem_cons.mpr ⟨List.mem_cons_of_mem _ (List.mem_append_left _ (List.mem_of_getElem? (i := 1) rfl)), List.forall_mem_cons.mpr ⟨List.mem_cons_of_mem _ (List.mem_append_left _ (List.mem_of_getElem? (i := 2) rfl)), List.forall_mem_cons.mpr ⟨List.mem_cons_of_mem _ (List.mem_append_left _ (List.mem_of_getElem? (i := 3) rfl)), fun _ h => absurd h List.not_mem_nil⟩⟩⟩⟩) (by decide +kernel)) gw_X8_bound_X8_isTold
theorem gw_X8_bound_X2_isSafe : GoodIn W_X8_bound W_X2_isSafe := fun w h => ⟨List.mem_cons_of_mem _ (List.mem_append_right _ (List.mem_append_right _ (List.mem_append_right _ (h)))), (wI_X2_isSafe w h).2⟩
theorem gc_X8_bound_220_X2_isSafe : GoodIn W_X8_bound (wsV RX8 220 RX2 yX2_isSafe W_X2_isSafe) := goodIn_app (goodIn_sub (List.forall_mem_cons.mpr ⟨List.mem_cons_of_mem _ (List.mem_append_left _ (List.mem_of_getElem? (i := 5) rfl)), List.forall_mem_cons.mpr ⟨List.mem_cons_of_mem _ (List.mem_append_left _ (List.mem_of_getElem? (i := 6) rfl)), List.forall_mem_cons.mpr ⟨List.mem_cons_of_mem _ (List.mem_append_left _ (List.mem_of_getElem? (i := 7) rfl)), List.forall_mem_cons.mpr ⟨List.mem_cons_of_mem _ (List.mem_append_left _ (List.mem_of_getElem? (i := 8) rfl)), fun _ h => absurd h List.not_mem_nil⟩⟩⟩⟩) (by decide +kernel)) gw_X8_bound_X2_isSafe
theorem gw_X8_calm_X8_noState : GoodIn W_X8_calm W_X8_noState := fun w h => ⟨List.mem_cons_of_mem _ (List.mem_append_right _ (List.mem_append_right _ (List.mem_append_left _ (h)))), (wI_X8_noState w h).2⟩
theorem gc_X8_calm_124_X8_noState : GoodIn W_X8_calm (wsV RX8 124 RX8 yX8_noState W_X8_noState) := goodIn_app (goodIn_sub (List.forall_mem_cons.mpr ⟨List.mem_cons_of_mem _ (List.mem_append_left _ (List.mem_of_getElem? (i := 0) rfl)), List.forall_mem_cons.mpr ⟨List.mem_cons_of_mem _ (List.mem_append_left _ (List.mem_of_getElem? (i := 1) rfl)), List.forall_mem_cons.mpr ⟨List.mem_cons_of_mem _ (List.mem_append_left _ (List.mem_of_getElem? (i := 2) rfl)), List.forall_mem_cons.mpr ⟨List.mem_cons_of_mem _ (List.mem_append_left _ (List.mem_of_getElem? (i := 3) rfl)), fun _ h => absurd h List.not_mem_nil⟩⟩⟩⟩) (by decide +kernel)) gw_X8_calm_X8_noState
theorem gw_X8_calm_X2_isValid : GoodIn W_X8_calm W_X2_isValid := fun w h => ⟨List.mem_cons_of_mem _ (List.mem_append_right _ (List.mem_append_right _ (List.mem_append_right _ (List.mem_append_left _ (h))))), (wI_X2_isValid w h).2⟩
theorem gc_X8_calm_141_X2_isValid : GoodIn W_X8_calm (wsV RX8 141 RX2 yX2_isValid W_X2_isValid) := goodIn_app (goodIn_sub (List.forall_mem_cons.mpr ⟨List.mem_cons_of_mem _ (List.mem_append_left _ (List.mem_of_getElem? (i := 5) rfl)), List.forall_mem_cons.mpr ⟨List.mem_cons_of_mem _ (List.mem_append_left _ (List.mem_of_getElem? (i := 6) rfl)), List.forall_mem_cons.mpr ⟨List.mem_cons_of_mem _ (List.mem_append_left _ (List.mem_of_getElem? (i := 7) rfl)), List.forall_mem_cons.mpr ⟨List.mem_cons_of_mem _ (List.mem_append_left _ (List.mem_of_getElem? (i := 8) rfl)), fun _ h => absurd h List.not_mem_nil⟩⟩⟩⟩) (by decide +kernel)) gw_X8_calm_X2_isValid
theorem gw_X8_calm_X2_breaksFrom : GoodIn W_X8_calm W_X2_breaksFrom := fun w h => ⟨List.mem_cons_of_mem _ (List.mem_append_right _ (List.mem_append_right _ (List.mem_append_right _ (List.mem_append_right _ (h))))), (wI_X2_breaksFrom w h).2⟩
theorem gc_X8_calm_211_X2_breaksFrom : GoodIn W_X8_calm (wsV RX8 211 RX2 yX2_breaksFrom W_X2_breaksFrom) := goodIn_app (goodIn_sub (List.forall_mem_cons.mpr ⟨List.mem_cons_of_mem _ (List.mem_append_left _ (List.mem_of_getElem? (i := 9) rfl)), List.forall_mem_cons.mpr ⟨List.mem_cons_of_mem _ (List.mem_append_left _ (List.mem_of_getElem? (i := 10) rfl)), List.forall_mem_cons.mpr ⟨List.mem_cons_of_mem _ (List.mem_append_left _ (List.mem_of_getElem? (i := 11) rfl)), List.forall_mem_cons.mpr ⟨List.mem_cons_of_mem _ (List.mem_append_left _ (List.mem_of_getElem? (i := 8) rfl)), fun _ h => absurd h List.not_mem_nil⟩⟩⟩⟩) (by decide +kernel)) gw_X8_calm_X2_breaksFrom
theorem gw_X8_culprit_X2_firstBroken : GoodIn W_X8_culprit W_X2_firstBroken := fun w h => ⟨List.mem_cons_of_mem _ (List.mem_append_right _ (List.mem_append_right _ (List.mem_append_right _ (List.mem_append_right _ (List.mem_append_right _ (h)))))), (wI_X2_firstBroken w h).2⟩
theorem gc_X8_culprit_154_X2_firstBroken : GoodIn W_X8_culprit (wsV RX8 154 RX2 yX2_firstBroken W_X2_firstBroken) := goodIn_app (goodIn_sub (List.forall_mem_cons.mpr ⟨List.mem_cons_of_mem _ (List.mem_append_left _ (List.mem_of_getElem? (i := 10) rfl)), List.forall_mem_cons.mpr ⟨List.mem_cons_of_mem _ (List.mem_append_left _ (List.mem_of_getElem? (i := 11) rfl)), List.forall_mem_cons.mpr ⟨List.mem_cons_of_mem _ (List.mem_append_left _ (List.mem_of_getElem? (i := 12) rfl)), List.forall_mem_cons.mpr ⟨List.mem_cons_of_mem _ (List.mem_append_left _ (List.mem_of_getElem? (i := 8) rfl)), fun _ h => absurd h List.not_mem_nil⟩⟩⟩⟩) (by decide +kernel)) gw_X8_culprit_X2_firstBroken
theorem gw_X8_culprit_X8_noDepth : GoodIn W_X8_culprit W_X8_noDepth := fun w h => ⟨List.mem_cons_of_mem _ (List.mem_append_right _ (List.mem_append_right _ (List.mem_append_right _ (List.mem_append_left _ (h))))), (wI_X8_noDepth w h).2⟩
theorem gc_X8_culprit_196_X8_noDepth : GoodIn W_X8_culprit (wsV RX8 196 RX8 yX8_noDepth W_X8_noDepth) := goodIn_app (goodIn_sub (List.forall_mem_cons.mpr ⟨List.mem_cons_of_mem _ (List.mem_append_left _ (List.mem_of_getElem? (i := 0) rfl)), List.forall_mem_cons.mpr ⟨List.mem_cons_of_mem _ (List.mem_append_left _ (List.mem_of_getElem? (i := 1) rfl)), List.forall_mem_cons.mpr ⟨List.mem_cons_of_mem _ (List.mem_append_left _ (List.mem_of_getElem? (i := 2) rfl)), List.forall_mem_cons.mpr ⟨List.mem_cons_of_mem _ (List.mem_append_left _ (List.mem_of_getElem? (i := 3) rfl)), fun _ h => absurd h List.not_mem_nil⟩⟩⟩⟩) (by decide +kernel)) gw_X8_culprit_X8_noDepth
theorem gw_X8_culprit_X2_findSmallest : GoodIn W_X8_culprit W_X2_findSmallest := fun w h => ⟨List.mem_cons_of_mem _ (List.mem_append_right _ (List.mem_append_right _ (List.mem_append_right _ (List.mem_append_right _ (List.mem_append_left _ (h)))))), (wI_X2_findSmallest w h).2⟩
theorem gc_X8_culprit_223_X2_findSmallest : GoodIn W_X8_culprit (wsV RX8 223 RX2 yX2_findSmallest W_X2_findSmallest) := goodIn_app (goodIn_sub (List.forall_mem_cons.mpr ⟨List.mem_cons_of_mem _ (List.mem_append_left _ (List.mem_of_getElem? (i := 5) rfl)), List.forall_mem_cons.mpr ⟨List.mem_cons_of_mem _ (List.mem_append_left _ (List.mem_of_getElem? (i := 6) rfl)), List.forall_mem_cons.mpr ⟨List.mem_cons_of_mem _ (List.mem_append_left _ (List.mem_of_getElem? (i := 7) rfl)), List.forall_mem_cons.mpr ⟨List.mem_cons_of_mem _ (List.mem_append_left _ (List.mem_of_getElem? (i := 8) rfl)), fun _ h => absurd h List.not_mem_nil⟩⟩⟩⟩) (by decide +kernel)) gw_X8_culprit_X2_findSmallest
theorem gw_X8_cure_X8_isTold : GoodIn W_X8_cure W_X8_isTold := fun w h => ⟨List.mem_cons_of_mem _ (List.mem_append_right _ (List.mem_append_right _ (List.mem_append_right _ (List.mem_append_left _ (h))))), (wI_X8_isTold w h).2⟩
theorem gc_X8_cure_120_X8_isTold : GoodIn W_X8_cure (wsV RX8 120 RX8 yX8_isTold W_X8_isTold) := goodIn_app (goodIn_sub (List.forall_mem_cons.mpr ⟨List.mem_cons_of_mem _ (List.mem_append_left _ (List.mem_of_getElem? (i := 0) rfl)), List.forall_mem_cons.mpr ⟨List.mem_cons_of_mem _ (List.mem_append_left _ (List.mem_of_getElem? (i := 1) rfl)), List.forall_mem_cons.mpr ⟨List.mem_cons_of_mem _ (List.mem_append_left _ (List.mem_of_getElem? (i := 2) rfl)), List.forall_mem_cons.mpr ⟨List.mem_cons_of_mem _ (List.mem_append_left _ (List.mem_of_getElem? (i := 3) rfl)), fun _ h => absurd h List.not_mem_nil⟩⟩⟩⟩) (by decide +kernel)) gw_X8_cure_X8_isTold
theorem gw_X8_cure_X2_total : GoodIn W_X8_cure W_X2_total := fun w h => ⟨List.mem_cons_of_mem _ (List.mem_append_right _ (List.mem_append_right _ (List.mem_append_right _ (List.mem_append_right _ (List.mem_append_left _ (h)))))), (wI_X2_total w h).2⟩
theorem gc_X8_cure_214_X2_total : GoodIn W_X8_cure (wsV RX8 214 RX2 yX2_total W_X2_total) := goodIn_app (goodIn_sub (List.forall_mem_cons.mpr ⟨List.mem_cons_of_mem _ (List.mem_append_left _ (List.mem_of_getElem? (i := 5) rfl)), List.forall_mem_cons.mpr ⟨List.mem_cons_of_mem _ (List.mem_append_left _ (List.mem_of_getElem? (i := 6) rfl)), List.forall_mem_cons.mpr ⟨List.mem_cons_of_mem _ (List.mem_append_left _ (List.mem_of_getElem? (i := 7) rfl)), List.forall_mem_cons.mpr ⟨List.mem_cons_of_mem _ (List.mem_append_left _ (List.mem_of_getElem? (i := 8) rfl)), fun _ h => absurd h List.not_mem_nil⟩⟩⟩⟩) (by decide +kernel)) gw_X8_cure_X2_total
theorem gw_X8_cure_X2_totalOf : GoodIn W_X8_cure W_X2_totalOf := fun w h => ⟨List.mem_cons_of_mem _ (List.mem_append_right _ (List.mem_append_right _ (List.mem_append_right _ (List.mem_append_right _ (List.mem_append_right _ (h)))))), (wI_X2_totalOf w h).2⟩
theorem gc_X8_cure_251_X2_totalOf : GoodIn W_X8_cure (wsV RX8 251 RX2 yX2_totalOf W_X2_totalOf) := goodIn_app (goodIn_sub (List.forall_mem_cons.mpr ⟨List.mem_cons_of_mem _ (List.mem_append_left _ (List.mem_of_getElem? (i := 11) rfl)), List.forall_mem_cons.mpr ⟨List.mem_cons_of_mem _ (List.mem_append_left _ (List.mem_of_getElem? (i := 12) rfl)), List.forall_mem_cons.mpr ⟨List.mem_cons_of_mem _ (List.mem_append_left _ (List.mem_of_getElem? (i := 13) rfl)), List.forall_mem_cons.mpr ⟨List.mem_cons_of_mem _ (List.mem_append_left _ (List.mem_of_getElem? (i := 8) rfl)), fun _ h => absurd h List.not_mem_nil⟩⟩⟩⟩) (by decide +kernel)) gw_X8_cure_X2_totalOf
theorem gw_X8_fewest_J6_bitCount_0f7a4 : GoodIn W_X8_fewest W_J6_bitCount_0f7a4 := fun w h => ⟨List.mem_cons_of_mem _ (List.mem_append_right _ (List.mem_append_right _ (List.mem_append_right _ (List.mem_append_right _ (h))))), (wI_J6_bitCount_0f7a4 w h).2⟩
theorem gc_X8_fewest_241_J6_bitCount_0f7a4 : GoodIn W_X8_fewest (va_wsS RX8 241 yJ6_bitCount_0f7a4 W_J6_bitCount_0f7a4) := goodIn_app (goodIn_sub (List.forall_mem_cons.mpr ⟨List.mem_cons_of_mem _ (List.mem_append_left _ (List.mem_of_getElem? (i := 9) rfl)), List.forall_mem_cons.mpr ⟨List.mem_cons_of_mem _ (List.mem_append_left _ (List.mem_of_getElem? (i := 10) rfl)), List.forall_mem_cons.mpr ⟨List.mem_cons_of_mem _ (List.mem_append_left _ (List.mem_of_getElem? (i := 11) rfl)), fun _ h => absurd h List.not_mem_nil⟩⟩⟩) (by decide +kernel)) gw_X8_fewest_J6_bitCount_0f7a4
theorem gw_X8_fewest_X8_noDepth : GoodIn W_X8_fewest W_X8_noDepth := fun w h => ⟨List.mem_cons_of_mem _ (List.mem_append_right _ (List.mem_append_right _ (List.mem_append_left _ (h)))), (wI_X8_noDepth w h).2⟩
theorem gc_X8_fewest_196_X8_noDepth : GoodIn W_X8_fewest (wsV RX8 196 RX8 yX8_noDepth W_X8_noDepth) := goodIn_app (goodIn_sub (List.forall_mem_cons.mpr ⟨List.mem_cons_of_mem _ (List.mem_append_left _ (List.mem_of_getElem? (i := 0) rfl)), List.forall_mem_cons.mpr ⟨List.mem_cons_of_mem _ (List.mem_append_left _ (List.mem_of_getElem? (i := 1) rfl)), List.forall_mem_cons.mpr ⟨List.mem_cons_of_mem _ (List.mem_append_left _ (List.mem_of_getElem? (i := 2) rfl)), List.forall_mem_cons.mpr ⟨List.mem_cons_of_mem _ (List.mem_append_left _ (List.mem_of_getElem? (i := 3) rfl)), fun _ h => absurd h List.not_mem_nil⟩⟩⟩⟩) (by decide +kernel)) gw_X8_fewest_X8_noDepth
theorem gw_X8_fewest_X2_leastLocks : GoodIn W_X8_fewest W_X2_leastLocks := fun w h => ⟨List.mem_cons_of_mem _ (List.mem_append_right _ (List.mem_append_right _ (List.mem_append_right _ (List.mem_append_left _ (h))))), (wI_X2_leastLocks w h).2⟩
theorem gc_X8_fewest_238_X2_leastLocks : GoodIn W_X8_fewest (wsV RX8 238 RX2 yX2_leastLocks W_X2_leastLocks) := goodIn_app (goodIn_sub (List.forall_mem_cons.mpr ⟨List.mem_cons_of_mem _ (List.mem_append_left _ (List.mem_of_getElem? (i := 5) rfl)), List.forall_mem_cons.mpr ⟨List.mem_cons_of_mem _ (List.mem_append_left _ (List.mem_of_getElem? (i := 6) rfl)), List.forall_mem_cons.mpr ⟨List.mem_cons_of_mem _ (List.mem_append_left _ (List.mem_of_getElem? (i := 7) rfl)), List.forall_mem_cons.mpr ⟨List.mem_cons_of_mem _ (List.mem_append_left _ (List.mem_of_getElem? (i := 8) rfl)), fun _ h => absurd h List.not_mem_nil⟩⟩⟩⟩) (by decide +kernel)) gw_X8_fewest_X2_leastLocks
theorem gw_X8_fine_X8_noDepth : GoodIn W_X8_fine W_X8_noDepth := fun w h => ⟨List.mem_cons_of_mem _ (List.mem_append_right _ (List.mem_append_right _ (List.mem_append_right _ (List.mem_append_left _ (h))))), (wI_X8_noDepth w h).2⟩
theorem gc_X8_fine_196_X8_noDepth : GoodIn W_X8_fine (wsV RX8 196 RX8 yX8_noDepth W_X8_noDepth) := goodIn_app (goodIn_sub (List.forall_mem_cons.mpr ⟨List.mem_cons_of_mem _ (List.mem_append_left _ (List.mem_of_getElem? (i := 0) rfl)), List.forall_mem_cons.mpr ⟨List.mem_cons_of_mem _ (List.mem_append_left _ (List.mem_of_getElem? (i := 1) rfl)), List.forall_mem_cons.mpr ⟨List.mem_cons_of_mem _ (List.mem_append_left _ (List.mem_of_getElem? (i := 2) rfl)), List.forall_mem_cons.mpr ⟨List.mem_cons_of_mem _ (List.mem_append_left _ (List.mem_of_getElem? (i := 3) rfl)), fun _ h => absurd h List.not_mem_nil⟩⟩⟩⟩) (by decide +kernel)) gw_X8_fine_X8_noDepth
theorem gw_X8_fine_X2_isSafeAlone : GoodIn W_X8_fine W_X2_isSafeAlone := fun w h => ⟨List.mem_cons_of_mem _ (List.mem_append_right _ (List.mem_append_right _ (List.mem_append_right _ (List.mem_append_right _ (h))))), (wI_X2_isSafeAlone w h).2⟩
theorem gc_X8_fine_235_X2_isSafeAlone : GoodIn W_X8_fine (wsV RX8 235 RX2 yX2_isSafeAlone W_X2_isSafeAlone) := goodIn_app (goodIn_sub (List.forall_mem_cons.mpr ⟨List.mem_cons_of_mem _ (List.mem_append_left _ (List.mem_of_getElem? (i := 7) rfl)), List.forall_mem_cons.mpr ⟨List.mem_cons_of_mem _ (List.mem_append_left _ (List.mem_of_getElem? (i := 8) rfl)), List.forall_mem_cons.mpr ⟨List.mem_cons_of_mem _ (List.mem_append_left _ (List.mem_of_getElem? (i := 9) rfl)), List.forall_mem_cons.mpr ⟨List.mem_cons_of_mem _ (List.mem_append_left _ (List.mem_of_getElem? (i := 10) rfl)), fun _ h => absurd h List.not_mem_nil⟩⟩⟩⟩) (by decide +kernel)) gw_X8_fine_X2_isSafeAlone
theorem gw_X8_hits_X8_noRule : GoodIn W_X8_hits W_X8_noRule := fun w h => ⟨List.mem_cons_of_mem _ (List.mem_append_right _ (List.mem_append_right _ (List.mem_append_right _ (List.mem_append_left _ (h))))), (wI_X8_noRule w h).2⟩
theorem gc_X8_hits_108_X8_noRule : GoodIn W_X8_hits (wsV RX8 108 RX8 yX8_noRule W_X8_noRule) := goodIn_app (goodIn_sub (List.forall_mem_cons.mpr ⟨List.mem_cons_of_mem _ (List.mem_append_left _ (List.mem_of_getElem? (i := 0) rfl)), List.forall_mem_cons.mpr ⟨List.mem_cons_of_mem _ (List.mem_append_left _ (List.mem_of_getElem? (i := 1) rfl)), List.forall_mem_cons.mpr ⟨List.mem_cons_of_mem _ (List.mem_append_left _ (List.mem_of_getElem? (i := 2) rfl)), List.forall_mem_cons.mpr ⟨List.mem_cons_of_mem _ (List.mem_append_left _ (List.mem_of_getElem? (i := 3) rfl)), fun _ h => absurd h List.not_mem_nil⟩⟩⟩⟩) (by decide +kernel)) gw_X8_hits_X8_noRule
theorem gw_X8_hits_X8_noDepth : GoodIn W_X8_hits W_X8_noDepth := fun w h => ⟨List.mem_cons_of_mem _ (List.mem_append_right _ (List.mem_append_right _ (List.mem_append_right _ (List.mem_append_right _ (List.mem_append_left _ (h)))))), (wI_X8_noDepth w h).2⟩
theorem gc_X8_hits_196_X8_noDepth : GoodIn W_X8_hits (wsV RX8 196 RX8 yX8_noDepth W_X8_noDepth) := goodIn_app (goodIn_sub (List.forall_mem_cons.mpr ⟨List.mem_cons_of_mem _ (List.mem_append_left _ (List.mem_of_getElem? (i := 4) rfl)), List.forall_mem_cons.mpr ⟨List.mem_cons_of_mem _ (List.mem_append_left _ (List.mem_of_getElem? (i := 5) rfl)), List.forall_mem_cons.mpr ⟨List.mem_cons_of_mem _ (List.mem_append_left _ (List.mem_of_getElem? (i := 6) rfl)), List.forall_mem_cons.mpr ⟨List.mem_cons_of_mem _ (List.mem_append_left _ (List.mem_of_getElem? (i := 3) rfl)), fun _ h => absurd h List.not_mem_nil⟩⟩⟩⟩) (by decide +kernel)) gw_X8_hits_X8_noDepth
theorem gw_X8_hits_X2_countHits : GoodIn W_X8_hits W_X2_countHits := fun w h => ⟨List.mem_cons_of_mem _ (List.mem_append_right _ (List.mem_append_right _ (List.mem_append_right _ (List.mem_append_right _ (List.mem_append_right _ (h)))))), (wI_X2_countHits w h).2⟩
theorem gc_X8_hits_229_X2_countHits : GoodIn W_X8_hits (wsV RX8 229 RX2 yX2_countHits W_X2_countHits) := goodIn_app (goodIn_sub (List.forall_mem_cons.mpr ⟨List.mem_cons_of_mem _ (List.mem_append_left _ (List.mem_of_getElem? (i := 8) rfl)), List.forall_mem_cons.mpr ⟨List.mem_cons_of_mem _ (List.mem_append_left _ (List.mem_of_getElem? (i := 9) rfl)), List.forall_mem_cons.mpr ⟨List.mem_cons_of_mem _ (List.mem_append_left _ (List.mem_of_getElem? (i := 10) rfl)), List.forall_mem_cons.mpr ⟨List.mem_cons_of_mem _ (List.mem_append_left _ (List.mem_of_getElem? (i := 11) rfl)), fun _ h => absurd h List.not_mem_nil⟩⟩⟩⟩) (by decide +kernel)) gw_X8_hits_X2_countHits
theorem gw_X8_hot_X8_noDepth : GoodIn W_X8_hot W_X8_noDepth := fun w h => ⟨List.mem_cons_of_mem _ (List.mem_append_right _ (List.mem_append_right _ (List.mem_append_right _ (List.mem_append_left _ (h))))), (wI_X8_noDepth w h).2⟩
theorem gc_X8_hot_196_X8_noDepth : GoodIn W_X8_hot (wsV RX8 196 RX8 yX8_noDepth W_X8_noDepth) := goodIn_app (goodIn_sub (List.forall_mem_cons.mpr ⟨List.mem_cons_of_mem _ (List.mem_append_left _ (List.mem_of_getElem? (i := 0) rfl)), List.forall_mem_cons.mpr ⟨List.mem_cons_of_mem _ (List.mem_append_left _ (List.mem_of_getElem? (i := 1) rfl)), List.forall_mem_cons.mpr ⟨List.mem_cons_of_mem _ (List.mem_append_left _ (List.mem_of_getElem? (i := 2) rfl)), List.forall_mem_cons.mpr ⟨List.mem_cons_of_mem _ (List.mem_append_left _ (List.mem_of_getElem? (i := 3) rfl)), fun _ h => absurd h List.not_mem_nil⟩⟩⟩⟩) (by decide +kernel)) gw_X8_hot_X8_noDepth
theorem gw_X8_hot_X2_breaksFrom : GoodIn W_X8_hot W_X2_breaksFrom := fun w h => ⟨List.mem_cons_of_mem _ (List.mem_append_right _ (List.mem_append_right _ (List.mem_append_right _ (List.mem_append_right _ (h))))), (wI_X2_breaksFrom w h).2⟩
theorem gc_X8_hot_211_X2_breaksFrom : GoodIn W_X8_hot (wsV RX8 211 RX2 yX2_breaksFrom W_X2_breaksFrom) := goodIn_app (goodIn_sub (List.forall_mem_cons.mpr ⟨List.mem_cons_of_mem _ (List.mem_append_left _ (List.mem_of_getElem? (i := 7) rfl)), List.forall_mem_cons.mpr ⟨List.mem_cons_of_mem _ (List.mem_append_left _ (List.mem_of_getElem? (i := 8) rfl)), List.forall_mem_cons.mpr ⟨List.mem_cons_of_mem _ (List.mem_append_left _ (List.mem_of_getElem? (i := 9) rfl)), List.forall_mem_cons.mpr ⟨List.mem_cons_of_mem _ (List.mem_append_left _ (List.mem_of_getElem? (i := 10) rfl)), fun _ h => absurd h List.not_mem_nil⟩⟩⟩⟩) (by decide +kernel)) gw_X8_hot_X2_breaksFrom
theorem gw_X8_known_X8_noCell : GoodIn W_X8_known W_X8_noCell := fun w h => ⟨List.mem_cons_of_mem _ (List.mem_append_right _ (List.mem_append_right _ (List.mem_append_right _ (List.mem_append_right _ (h))))), (wI_X8_noCell w h).2⟩
theorem gc_X8_known_100_X8_noCell : GoodIn W_X8_known (wsV RX8 100 RX8 yX8_noCell W_X8_noCell) := goodIn_app (goodIn_sub (List.forall_mem_cons.mpr ⟨List.mem_cons_of_mem _ (List.mem_append_left _ (List.mem_of_getElem? (i := 6) rfl)), List.forall_mem_cons.mpr ⟨List.mem_cons_of_mem _ (List.mem_append_left _ (List.mem_of_getElem? (i := 7) rfl)), List.forall_mem_cons.mpr ⟨List.mem_cons_of_mem _ (List.mem_append_left _ (List.mem_of_getElem? (i := 8) rfl)), List.forall_mem_cons.mpr ⟨List.mem_cons_of_mem _ (List.mem_append_left _ (List.mem_of_getElem? (i := 3) rfl)), fun _ h => absurd h List.not_mem_nil⟩⟩⟩⟩) (by decide +kernel)) gw_X8_known_X8_noCell
theorem gw_X8_known_X8_noRule : GoodIn W_X8_known W_X8_noRule := fun w h => ⟨List.mem_cons_of_mem _ (List.mem_append_right _ (List.mem_append_right _ (List.mem_append_right _ (List.mem_append_left _ (h))))), (wI_X8_noRule w h).2⟩
theorem gc_X8_known_108_X8_noRule : GoodIn W_X8_known (wsV RX8 108 RX8 yX8_noRule W_X8_noRule) := goodIn_app (goodIn_sub (List.forall_mem_cons.mpr ⟨List.mem_cons_of_mem _ (List.mem_append_left _ (List.mem_of_getElem? (i := 0) rfl)), List.forall_mem_cons.mpr ⟨List.mem_cons_of_mem _ (List.mem_append_left _ (List.mem_of_getElem? (i := 1) rfl)), List.forall_mem_cons.mpr ⟨List.mem_cons_of_mem _ (List.mem_append_left _ (List.mem_of_getElem? (i := 2) rfl)), List.forall_mem_cons.mpr ⟨List.mem_cons_of_mem _ (List.mem_append_left _ (List.mem_of_getElem? (i := 3) rfl)), fun _ h => absurd h List.not_mem_nil⟩⟩⟩⟩) (by decide +kernel)) gw_X8_known_X8_noRule
theorem gw_X8_least_X8_noDepth : GoodIn W_X8_least W_X8_noDepth := fun w h => ⟨List.mem_cons_of_mem _ (List.mem_append_right _ (List.mem_append_right _ (List.mem_append_right _ (List.mem_append_left _ (h))))), (wI_X8_noDepth w h).2⟩
theorem gc_X8_least_196_X8_noDepth : GoodIn W_X8_least (wsV RX8 196 RX8 yX8_noDepth W_X8_noDepth) := goodIn_app (goodIn_sub (List.forall_mem_cons.mpr ⟨List.mem_cons_of_mem _ (List.mem_append_left _ (List.mem_of_getElem? (i := 0) rfl)), List.forall_mem_cons.mpr ⟨List.mem_cons_of_mem _ (List.mem_append_left _ (List.mem_of_getElem? (i := 1) rfl)), List.forall_mem_cons.mpr ⟨List.mem_cons_of_mem _ (List.mem_append_left _ (List.mem_of_getElem? (i := 2) rfl)), List.forall_mem_cons.mpr ⟨List.mem_cons_of_mem _ (List.mem_append_left _ (List.mem_of_getElem? (i := 3) rfl)), fun _ h => absurd h List.not_mem_nil⟩⟩⟩⟩) (by decide +kernel)) gw_X8_least_X8_noDepth
theorem gw_X8_least_X2_findSmallest : GoodIn W_X8_least W_X2_findSmallest := fun w h => ⟨List.mem_cons_of_mem _ (List.mem_append_right _ (List.mem_append_right _ (List.mem_append_right _ (List.mem_append_right _ (h))))), (wI_X2_findSmallest w h).2⟩
theorem gc_X8_least_223_X2_findSmallest : GoodIn W_X8_least (wsV RX8 223 RX2 yX2_findSmallest W_X2_findSmallest) := goodIn_app (goodIn_sub (List.forall_mem_cons.mpr ⟨List.mem_cons_of_mem _ (List.mem_append_left _ (List.mem_of_getElem? (i := 5) rfl)), List.forall_mem_cons.mpr ⟨List.mem_cons_of_mem _ (List.mem_append_left _ (List.mem_of_getElem? (i := 6) rfl)), List.forall_mem_cons.mpr ⟨List.mem_cons_of_mem _ (List.mem_append_left _ (List.mem_of_getElem? (i := 7) rfl)), List.forall_mem_cons.mpr ⟨List.mem_cons_of_mem _ (List.mem_append_left _ (List.mem_of_getElem? (i := 8) rfl)), fun _ h => absurd h List.not_mem_nil⟩⟩⟩⟩) (by decide +kernel)) gw_X8_least_X2_findSmallest
theorem gw_X8_locks_X8_noDepth : GoodIn W_X8_locks W_X8_noDepth := fun w h => ⟨List.mem_cons_of_mem _ (List.mem_append_right _ (List.mem_append_right _ (List.mem_append_left _ (h)))), (wI_X8_noDepth w h).2⟩
theorem gc_X8_locks_196_X8_noDepth : GoodIn W_X8_locks (wsV RX8 196 RX8 yX8_noDepth W_X8_noDepth) := goodIn_app (goodIn_sub (List.forall_mem_cons.mpr ⟨List.mem_cons_of_mem _ (List.mem_append_left _ (List.mem_of_getElem? (i := 0) rfl)), List.forall_mem_cons.mpr ⟨List.mem_cons_of_mem _ (List.mem_append_left _ (List.mem_of_getElem? (i := 1) rfl)), List.forall_mem_cons.mpr ⟨List.mem_cons_of_mem _ (List.mem_append_left _ (List.mem_of_getElem? (i := 2) rfl)), List.forall_mem_cons.mpr ⟨List.mem_cons_of_mem _ (List.mem_append_left _ (List.mem_of_getElem? (i := 3) rfl)), fun _ h => absurd h List.not_mem_nil⟩⟩⟩⟩) (by decide +kernel)) gw_X8_locks_X8_noDepth
theorem gw_X8_locks_X2_leastLocks : GoodIn W_X8_locks W_X2_leastLocks := fun w h => ⟨List.mem_cons_of_mem _ (List.mem_append_right _ (List.mem_append_right _ (List.mem_append_right _ (h)))), (wI_X2_leastLocks w h).2⟩
theorem gc_X8_locks_238_X2_leastLocks : GoodIn W_X8_locks (wsV RX8 238 RX2 yX2_leastLocks W_X2_leastLocks) := goodIn_app (goodIn_sub (List.forall_mem_cons.mpr ⟨List.mem_cons_of_mem _ (List.mem_append_left _ (List.mem_of_getElem? (i := 5) rfl)), List.forall_mem_cons.mpr ⟨List.mem_cons_of_mem _ (List.mem_append_left _ (List.mem_of_getElem? (i := 6) rfl)), List.forall_mem_cons.mpr ⟨List.mem_cons_of_mem _ (List.mem_append_left _ (List.mem_of_getElem? (i := 7) rfl)), List.forall_mem_cons.mpr ⟨List.mem_cons_of_mem _ (List.mem_append_left _ (List.mem_of_getElem? (i := 8) rfl)), fun _ h => absurd h List.not_mem_nil⟩⟩⟩⟩) (by decide +kernel)) gw_X8_locks_X2_leastLocks
theorem gw_X8_needed_X8_noDepth : GoodIn W_X8_needed W_X8_noDepth := fun w h => ⟨List.mem_cons_of_mem _ (List.mem_append_right _ (List.mem_append_right _ (List.mem_append_left _ (h)))), (wI_X8_noDepth w h).2⟩
theorem gc_X8_needed_196_X8_noDepth : GoodIn W_X8_needed (wsV RX8 196 RX8 yX8_noDepth W_X8_noDepth) := goodIn_app (goodIn_sub (List.forall_mem_cons.mpr ⟨List.mem_cons_of_mem _ (List.mem_append_left _ (List.mem_of_getElem? (i := 0) rfl)), List.forall_mem_cons.mpr ⟨List.mem_cons_of_mem _ (List.mem_append_left _ (List.mem_of_getElem? (i := 1) rfl)), List.forall_mem_cons.mpr ⟨List.mem_cons_of_mem _ (List.mem_append_left _ (List.mem_of_getElem? (i := 2) rfl)), List.forall_mem_cons.mpr ⟨List.mem_cons_of_mem _ (List.mem_append_left _ (List.mem_of_getElem? (i := 3) rfl)), fun _ h => absurd h List.not_mem_nil⟩⟩⟩⟩) (by decide +kernel)) gw_X8_needed_X8_noDepth
theorem gw_X8_needed_X2_commonLocks : GoodIn W_X8_needed W_X2_commonLocks := fun w h => ⟨List.mem_cons_of_mem _ (List.mem_append_right _ (List.mem_append_right _ (List.mem_append_right _ (h)))), (wI_X2_commonLocks w h).2⟩
theorem gc_X8_needed_245_X2_commonLocks : GoodIn W_X8_needed (wsV RX8 245 RX2 yX2_commonLocks W_X2_commonLocks) := goodIn_app (goodIn_sub (List.forall_mem_cons.mpr ⟨List.mem_cons_of_mem _ (List.mem_append_left _ (List.mem_of_getElem? (i := 5) rfl)), List.forall_mem_cons.mpr ⟨List.mem_cons_of_mem _ (List.mem_append_left _ (List.mem_of_getElem? (i := 6) rfl)), List.forall_mem_cons.mpr ⟨List.mem_cons_of_mem _ (List.mem_append_left _ (List.mem_of_getElem? (i := 7) rfl)), List.forall_mem_cons.mpr ⟨List.mem_cons_of_mem _ (List.mem_append_left _ (List.mem_of_getElem? (i := 8) rfl)), fun _ h => absurd h List.not_mem_nil⟩⟩⟩⟩) (by decide +kernel)) gw_X8_needed_X2_commonLocks
theorem gw_X8_pairs_X8_noDepth : GoodIn W_X8_pairs W_X8_noDepth := fun w h => ⟨List.mem_cons_of_mem _ (List.mem_append_right _ (List.mem_append_right _ (List.mem_append_left _ (h)))), (wI_X8_noDepth w h).2⟩
theorem gc_X8_pairs_196_X8_noDepth : GoodIn W_X8_pairs (wsV RX8 196 RX8 yX8_noDepth W_X8_noDepth) := goodIn_app (goodIn_sub (List.forall_mem_cons.mpr ⟨List.mem_cons_of_mem _ (List.mem_append_left _ (List.mem_of_getElem? (i := 0) rfl)), List.forall_mem_cons.mpr ⟨List.mem_cons_of_mem _ (List.mem_append_left _ (List.mem_of_getElem? (i := 1) rfl)), List.forall_mem_cons.mpr ⟨List.mem_cons_of_mem _ (List.mem_append_left _ (List.mem_of_getElem? (i := 2) rfl)), List.forall_mem_cons.mpr ⟨List.mem_cons_of_mem _ (List.mem_append_left _ (List.mem_of_getElem? (i := 3) rfl)), fun _ h => absurd h List.not_mem_nil⟩⟩⟩⟩) (by decide +kernel)) gw_X8_pairs_X8_noDepth
theorem gw_X8_pairs_X2_unlikePairs : GoodIn W_X8_pairs W_X2_unlikePairs := fun w h => ⟨List.mem_cons_of_mem _ (List.mem_append_right _ (List.mem_append_right _ (List.mem_append_right _ (h)))), (wI_X2_unlikePairs w h).2⟩
theorem gc_X8_pairs_217_X2_unlikePairs : GoodIn W_X8_pairs (wsV RX8 217 RX2 yX2_unlikePairs W_X2_unlikePairs) := goodIn_app (goodIn_sub (List.forall_mem_cons.mpr ⟨List.mem_cons_of_mem _ (List.mem_append_left _ (List.mem_of_getElem? (i := 5) rfl)), List.forall_mem_cons.mpr ⟨List.mem_cons_of_mem _ (List.mem_append_left _ (List.mem_of_getElem? (i := 6) rfl)), List.forall_mem_cons.mpr ⟨List.mem_cons_of_mem _ (List.mem_append_left _ (List.mem_of_getElem? (i := 7) rfl)), List.forall_mem_cons.mpr ⟨List.mem_cons_of_mem _ (List.mem_append_left _ (List.mem_of_getElem? (i := 8) rfl)), fun _ h => absurd h List.not_mem_nil⟩⟩⟩⟩) (by decide +kernel)) gw_X8_pairs_X2_unlikePairs
theorem gw_X8_safe_X8_noDepth : GoodIn W_X8_safe W_X8_noDepth := fun w h => ⟨List.mem_cons_of_mem _ (List.mem_append_right _ (List.mem_append_right _ (List.mem_append_left _ (h)))), (wI_X8_noDepth w h).2⟩
theorem gc_X8_safe_196_X8_noDepth : GoodIn W_X8_safe (wsV RX8 196 RX8 yX8_noDepth W_X8_noDepth) := goodIn_app (goodIn_sub (List.forall_mem_cons.mpr ⟨List.mem_cons_of_mem _ (List.mem_append_left _ (List.mem_of_getElem? (i := 0) rfl)), List.forall_mem_cons.mpr ⟨List.mem_cons_of_mem _ (List.mem_append_left _ (List.mem_of_getElem? (i := 1) rfl)), List.forall_mem_cons.mpr ⟨List.mem_cons_of_mem _ (List.mem_append_left _ (List.mem_of_getElem? (i := 2) rfl)), List.forall_mem_cons.mpr ⟨List.mem_cons_of_mem _ (List.mem_append_left _ (List.mem_of_getElem? (i := 3) rfl)), fun _ h => absurd h List.not_mem_nil⟩⟩⟩⟩) (by decide +kernel)) gw_X8_safe_X8_noDepth
theorem gw_X8_safe_X2_isSafe : GoodIn W_X8_safe W_X2_isSafe := fun w h => ⟨List.mem_cons_of_mem _ (List.mem_append_right _ (List.mem_append_right _ (List.mem_append_right _ (h)))), (wI_X2_isSafe w h).2⟩
theorem gc_X8_safe_220_X2_isSafe : GoodIn W_X8_safe (wsV RX8 220 RX2 yX2_isSafe W_X2_isSafe) := goodIn_app (goodIn_sub (List.forall_mem_cons.mpr ⟨List.mem_cons_of_mem _ (List.mem_append_left _ (List.mem_of_getElem? (i := 5) rfl)), List.forall_mem_cons.mpr ⟨List.mem_cons_of_mem _ (List.mem_append_left _ (List.mem_of_getElem? (i := 6) rfl)), List.forall_mem_cons.mpr ⟨List.mem_cons_of_mem _ (List.mem_append_left _ (List.mem_of_getElem? (i := 7) rfl)), List.forall_mem_cons.mpr ⟨List.mem_cons_of_mem _ (List.mem_append_left _ (List.mem_of_getElem? (i := 8) rfl)), fun _ h => absurd h List.not_mem_nil⟩⟩⟩⟩) (by decide +kernel)) gw_X8_safe_X2_isSafe
theorem gw_X8_worst_X8_noDepth : GoodIn W_X8_worst W_X8_noDepth := fun w h => ⟨List.mem_cons_of_mem _ (List.mem_append_right _ (List.mem_append_right _ (List.mem_append_right _ (List.mem_append_right _ (List.mem_append_left _ (h)))))), (wI_X8_noDepth w h).2⟩
theorem gc_X8_worst_196_X8_noDepth : GoodIn W_X8_worst (wsV RX8 196 RX8 yX8_noDepth W_X8_noDepth) := goodIn_app (goodIn_sub (List.forall_mem_cons.mpr ⟨List.mem_cons_of_mem _ (List.mem_append_left _ (List.mem_of_getElem? (i := 0) rfl)), List.forall_mem_cons.mpr ⟨List.mem_cons_of_mem _ (List.mem_append_left _ (List.mem_of_getElem? (i := 1) rfl)), List.forall_mem_cons.mpr ⟨List.mem_cons_of_mem _ (List.mem_append_left _ (List.mem_of_getElem? (i := 2) rfl)), List.forall_mem_cons.mpr ⟨List.mem_cons_of_mem _ (List.mem_append_left _ (List.mem_of_getElem? (i := 3) rfl)), fun _ h => absurd h List.not_mem_nil⟩⟩⟩⟩) (by decide +kernel)) gw_X8_worst_X8_noDepth
theorem gw_X8_worst_X2_countHits : GoodIn W_X8_worst W_X2_countHits := fun w h => ⟨List.mem_cons_of_mem _ (List.mem_append_right _ (List.mem_append_right _ (List.mem_append_right _ (List.mem_append_right _ (List.mem_append_right _ (h)))))), (wI_X2_countHits w h).2⟩
theorem gc_X8_worst_229_X2_countHits : GoodIn W_X8_worst (wsV RX8 229 RX2 yX2_countHits W_X2_countHits) := goodIn_app (goodIn_sub (List.forall_mem_cons.mpr ⟨List.mem_cons_of_mem _ (List.mem_append_left _ (List.mem_of_getElem? (i := 5) rfl)), List.forall_mem_cons.mpr ⟨List.mem_cons_of_mem _ (List.mem_append_left _ (List.mem_of_getElem? (i := 6) rfl)), List.forall_mem_cons.mpr ⟨List.mem_cons_of_mem _ (List.mem_append_left _ (List.mem_of_getElem? (i := 7) rfl)), List.forall_mem_cons.mpr ⟨List.mem_cons_of_mem _ (List.mem_append_left _ (List.mem_of_getElem? (i := 8) rfl)), fun _ h => absurd h List.not_mem_nil⟩⟩⟩⟩) (by decide +kernel)) gw_X8_worst_X2_countHits
