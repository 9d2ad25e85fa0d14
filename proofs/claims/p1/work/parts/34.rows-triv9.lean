theorem dX9_all_0 : decode cX9_all 0 = .ok (.aload_n 0, 1) := by decide +kernel
theorem dX9_all_1 : decode cX9_all 1 = .ok (.iload_n 1, 1) := by decide +kernel
theorem dX9_all_2 : decode cX9_all 2 = .ok (.invokevirtual 399, 3) := by decide +kernel
theorem dX9_all_5 : decode cX9_all 5 = .ok (.ifCond .eq 10, 3) := by decide +kernel
theorem dX9_all_15 : decode cX9_all 15 = .ok (.bipush (-2), 2) := by decide +kernel
theorem dX9_all_17 : decode cX9_all 17 = .ok (.ireturn, 1) := by decide +kernel
theorem dX9_alone_0 : decode cX9_alone 0 = .ok (.aload_n 0, 1) := by decide +kernel
theorem dX9_alone_1 : decode cX9_alone 1 = .ok (.invokevirtual 318, 3) := by decide +kernel
theorem dX9_alone_4 : decode cX9_alone 4 = .ok (.ifCond .eq 18, 3) := by decide +kernel
theorem dX9_alone_22 : decode cX9_alone 22 = .ok (.bipush (-2), 2) := by decide +kernel
theorem dX9_alone_24 : decode cX9_alone 24 = .ok (.ireturn, 1) := by decide +kernel
theorem dX9_anew_0 : decode cX9_anew 0 = .ok (.aload_n 0, 1) := by decide +kernel
theorem dX9_anew_1 : decode cX9_anew 1 = .ok (.invokevirtual 92, 3) := by decide +kernel
theorem dX9_anew_4 : decode cX9_anew 4 = .ok (.ifCond .ne 6, 3) := by decide +kernel
theorem dX9_anew_7 : decode cX9_anew 7 = .ok (.bipush (-2), 2) := by decide +kernel
theorem dX9_anew_9 : decode cX9_anew 9 = .ok (.ireturn, 1) := by decide +kernel
theorem dX9_asked_0 : decode cX9_asked 0 = .ok (.aload_n 0, 1) := by decide +kernel
theorem dX9_asked_1 : decode cX9_asked 1 = .ok (.iload_n 1, 1) := by decide +kernel
theorem dX9_asked_2 : decode cX9_asked 2 = .ok (.invokevirtual 354, 3) := by decide +kernel
theorem dX9_asked_5 : decode cX9_asked 5 = .ok (.ifCond .eq 10, 3) := by decide +kernel
theorem dX9_asked_15 : decode cX9_asked 15 = .ok (.bipush (-2), 2) := by decide +kernel
theorem dX9_asked_17 : decode cX9_asked 17 = .ok (.ireturn, 1) := by decide +kernel
theorem dX9_bad_0 : decode cX9_bad 0 = .ok (.aload_n 0, 1) := by decide +kernel
theorem dX9_bad_1 : decode cX9_bad 1 = .ok (.invokevirtual 318, 3) := by decide +kernel
theorem dX9_bad_4 : decode cX9_bad 4 = .ok (.ifCond .eq 28, 3) := by decide +kernel
theorem dX9_bad_32 : decode cX9_bad 32 = .ok (.bipush (-2), 2) := by decide +kernel
theorem dX9_bad_34 : decode cX9_bad 34 = .ok (.ireturn, 1) := by decide +kernel
theorem dX9_bare_0 : decode cX9_bare 0 = .ok (.aload_n 0, 1) := by decide +kernel
theorem dX9_bare_1 : decode cX9_bare 1 = .ok (.invokevirtual 318, 3) := by decide +kernel
theorem dX9_bare_4 : decode cX9_bare 4 = .ok (.ifCond .eq 10, 3) := by decide +kernel
theorem dX9_bare_14 : decode cX9_bare 14 = .ok (.bipush (-2), 2) := by decide +kernel
theorem dX9_bare_16 : decode cX9_bare 16 = .ok (.ireturn, 1) := by decide +kernel
theorem dX9_blame_0 : decode cX9_blame 0 = .ok (.aload_n 0, 1) := by decide +kernel
theorem dX9_blame_1 : decode cX9_blame 1 = .ok (.invokevirtual 318, 3) := by decide +kernel
theorem dX9_blame_4 : decode cX9_blame 4 = .ok (.ifCond .ne 6, 3) := by decide +kernel
theorem dX9_blame_7 : decode cX9_blame 7 = .ok (.bipush (-2), 2) := by decide +kernel
theorem dX9_blame_9 : decode cX9_blame 9 = .ok (.ireturn, 1) := by decide +kernel
theorem dX9_bound_0 : decode cX9_bound 0 = .ok (.aload_n 0, 1) := by decide +kernel
theorem dX9_bound_1 : decode cX9_bound 1 = .ok (.invokevirtual 318, 3) := by decide +kernel
theorem dX9_bound_4 : decode cX9_bound 4 = .ok (.ifCond .ne 6, 3) := by decide +kernel
theorem dX9_bound_7 : decode cX9_bound 7 = .ok (.bipush (-2), 2) := by decide +kernel
theorem dX9_bound_9 : decode cX9_bound 9 = .ok (.ireturn, 1) := by decide +kernel
theorem dX9_breaks_0 : decode cX9_breaks 0 = .ok (.aload_n 0, 1) := by decide +kernel
theorem dX9_breaks_1 : decode cX9_breaks 1 = .ok (.invokevirtual 318, 3) := by decide +kernel
theorem dX9_breaks_4 : decode cX9_breaks 4 = .ok (.ifCond .eq 20, 3) := by decide +kernel
theorem dX9_breaks_24 : decode cX9_breaks 24 = .ok (.bipush (-2), 2) := by decide +kernel
theorem dX9_breaks_26 : decode cX9_breaks 26 = .ok (.ireturn, 1) := by decide +kernel
theorem dX9_by_0 : decode cX9_by 0 = .ok (.aload_n 0, 1) := by decide +kernel
theorem dX9_by_1 : decode cX9_by 1 = .ok (.invokevirtual 318, 3) := by decide +kernel
theorem dX9_by_4 : decode cX9_by 4 = .ok (.ifCond .eq 23, 3) := by decide +kernel
theorem dX9_by_27 : decode cX9_by 27 = .ok (.bipush (-2), 2) := by decide +kernel
theorem dX9_by_29 : decode cX9_by 29 = .ok (.ireturn, 1) := by decide +kernel
theorem dX9_calm_0 : decode cX9_calm 0 = .ok (.aload_n 0, 1) := by decide +kernel
theorem dX9_calm_1 : decode cX9_calm 1 = .ok (.invokevirtual 318, 3) := by decide +kernel
theorem dX9_calm_4 : decode cX9_calm 4 = .ok (.ifCond .eq 12, 3) := by decide +kernel
theorem dX9_calm_16 : decode cX9_calm 16 = .ok (.bipush (-2), 2) := by decide +kernel
theorem dX9_calm_18 : decode cX9_calm 18 = .ok (.ireturn, 1) := by decide +kernel
theorem dX9_cell_0 : decode cX9_cell 0 = .ok (.aload_n 0, 1) := by decide +kernel
theorem dX9_cell_1 : decode cX9_cell 1 = .ok (.iload_n 1, 1) := by decide +kernel
theorem dX9_cell_2 : decode cX9_cell 2 = .ok (.invokevirtual 252, 3) := by decide +kernel
theorem dX9_cell_5 : decode cX9_cell 5 = .ok (.ifCond .eq 15, 3) := by decide +kernel
theorem dX9_cell_20 : decode cX9_cell 20 = .ok (.bipush (-2), 2) := by decide +kernel
theorem dX9_cell_22 : decode cX9_cell 22 = .ok (.ireturn, 1) := by decide +kernel
theorem dX9_chance_0 : decode cX9_chance 0 = .ok (.aload_n 0, 1) := by decide +kernel
theorem dX9_chance_1 : decode cX9_chance 1 = .ok (.iload_n 1, 1) := by decide +kernel
theorem dX9_chance_2 : decode cX9_chance 2 = .ok (.invokevirtual 494, 3) := by decide +kernel
theorem dX9_chance_5 : decode cX9_chance 5 = .ok (.ifCond .eq 18, 3) := by decide +kernel
theorem dX9_chance_23 : decode cX9_chance 23 = .ok (.ldc2_w 497, 3) := by decide +kernel
theorem dX9_chance_26 : decode cX9_chance 26 = .ok (.lreturn, 1) := by decide +kernel
theorem dX9_clashes_0 : decode cX9_clashes 0 = .ok (.aload_n 0, 1) := by decide +kernel
theorem dX9_clashes_1 : decode cX9_clashes 1 = .ok (.invokevirtual 318, 3) := by decide +kernel
theorem dX9_clashes_4 : decode cX9_clashes 4 = .ok (.ifCond .eq 19, 3) := by decide +kernel
theorem dX9_clashes_23 : decode cX9_clashes 23 = .ok (.bipush (-2), 2) := by decide +kernel
theorem dX9_clashes_25 : decode cX9_clashes 25 = .ok (.ireturn, 1) := by decide +kernel
theorem dX9_commute_0 : decode cX9_commute 0 = .ok (.aload_n 0, 1) := by decide +kernel
theorem dX9_commute_1 : decode cX9_commute 1 = .ok (.invokevirtual 318, 3) := by decide +kernel
theorem dX9_commute_4 : decode cX9_commute 4 = .ok (.ifCond .eq 19, 3) := by decide +kernel
theorem dX9_commute_23 : decode cX9_commute 23 = .ok (.bipush (-2), 2) := by decide +kernel
theorem dX9_commute_25 : decode cX9_commute 25 = .ok (.ireturn, 1) := by decide +kernel
theorem dX9_culprit_0 : decode cX9_culprit 0 = .ok (.aload_n 0, 1) := by decide +kernel
theorem dX9_culprit_1 : decode cX9_culprit 1 = .ok (.iload_n 1, 1) := by decide +kernel
theorem dX9_culprit_2 : decode cX9_culprit 2 = .ok (.invokevirtual 399, 3) := by decide +kernel
theorem dX9_culprit_5 : decode cX9_culprit 5 = .ok (.ifCond .ne 6, 3) := by decide +kernel
theorem dX9_culprit_8 : decode cX9_culprit 8 = .ok (.bipush (-2), 2) := by decide +kernel
theorem dX9_culprit_10 : decode cX9_culprit 10 = .ok (.ireturn, 1) := by decide +kernel
theorem dX9_cure_0 : decode cX9_cure 0 = .ok (.aload_n 0, 1) := by decide +kernel
theorem dX9_cure_1 : decode cX9_cure 1 = .ok (.invokevirtual 318, 3) := by decide +kernel
theorem dX9_cure_4 : decode cX9_cure 4 = .ok (.ifCond .ne 6, 3) := by decide +kernel
theorem dX9_cure_7 : decode cX9_cure 7 = .ok (.bipush (-2), 2) := by decide +kernel
theorem dX9_cure_9 : decode cX9_cure 9 = .ok (.ireturn, 1) := by decide +kernel
theorem dX9_dead_0 : decode cX9_dead 0 = .ok (.aload_n 0, 1) := by decide +kernel
theorem dX9_dead_1 : decode cX9_dead 1 = .ok (.invokevirtual 318, 3) := by decide +kernel
theorem dX9_dead_4 : decode cX9_dead 4 = .ok (.ifCond .ne 6, 3) := by decide +kernel
theorem dX9_dead_7 : decode cX9_dead 7 = .ok (.bipush (-2), 2) := by decide +kernel
theorem dX9_dead_9 : decode cX9_dead 9 = .ok (.ireturn, 1) := by decide +kernel
theorem dX9_does_0 : decode cX9_does 0 = .ok (.aload_n 0, 1) := by decide +kernel
theorem dX9_does_1 : decode cX9_does 1 = .ok (.invokevirtual 318, 3) := by decide +kernel
theorem dX9_does_4 : decode cX9_does 4 = .ok (.ifCond .eq 29, 3) := by decide +kernel
theorem dX9_does_33 : decode cX9_does 33 = .ok (.bipush (-2), 2) := by decide +kernel
theorem dX9_does_35 : decode cX9_does 35 = .ok (.ireturn, 1) := by decide +kernel
theorem dX9_drawn_0 : decode cX9_drawn 0 = .ok (.aload_n 0, 1) := by decide +kernel
theorem dX9_drawn_1 : decode cX9_drawn 1 = .ok (.invokevirtual 92, 3) := by decide +kernel
theorem dX9_drawn_4 : decode cX9_drawn 4 = .ok (.ifCond .eq 20, 3) := by decide +kernel
theorem dX9_drawn_24 : decode cX9_drawn 24 = .ok (.bipush (-2), 2) := by decide +kernel
theorem dX9_drawn_26 : decode cX9_drawn 26 = .ok (.ireturn, 1) := by decide +kernel
theorem dX9_dropped_0 : decode cX9_dropped 0 = .ok (.aload_n 0, 1) := by decide +kernel
theorem dX9_dropped_1 : decode cX9_dropped 1 = .ok (.invokevirtual 318, 3) := by decide +kernel
theorem dX9_dropped_4 : decode cX9_dropped 4 = .ok (.ifCond .eq 10, 3) := by decide +kernel
theorem dX9_dropped_14 : decode cX9_dropped 14 = .ok (.bipush (-2), 2) := by decide +kernel
theorem dX9_dropped_16 : decode cX9_dropped 16 = .ok (.ireturn, 1) := by decide +kernel
theorem dX9_drops_0 : decode cX9_drops 0 = .ok (.aload_n 0, 1) := by decide +kernel
theorem dX9_drops_1 : decode cX9_drops 1 = .ok (.iload_n 1, 1) := by decide +kernel
theorem dX9_drops_2 : decode cX9_drops 2 = .ok (.invokevirtual 256, 3) := by decide +kernel
theorem dX9_drops_5 : decode cX9_drops 5 = .ok (.ifCond .eq 15, 3) := by decide +kernel
theorem dX9_drops_20 : decode cX9_drops 20 = .ok (.bipush (-2), 2) := by decide +kernel
theorem dX9_drops_22 : decode cX9_drops 22 = .ok (.ireturn, 1) := by decide +kernel
theorem dX9_even_0 : decode cX9_even 0 = .ok (.aload_n 0, 1) := by decide +kernel
theorem dX9_even_1 : decode cX9_even 1 = .ok (.invokevirtual 318, 3) := by decide +kernel
theorem dX9_even_4 : decode cX9_even 4 = .ok (.ifCond .eq 30, 3) := by decide +kernel
theorem dX9_even_34 : decode cX9_even 34 = .ok (.bipush (-2), 2) := by decide +kernel
theorem dX9_even_36 : decode cX9_even 36 = .ok (.ireturn, 1) := by decide +kernel
theorem dX9_far_0 : decode cX9_far 0 = .ok (.aload_n 0, 1) := by decide +kernel
theorem dX9_far_1 : decode cX9_far 1 = .ok (.iload_n 1, 1) := by decide +kernel
theorem dX9_far_2 : decode cX9_far 2 = .ok (.invokevirtual 354, 3) := by decide +kernel
theorem dX9_far_5 : decode cX9_far 5 = .ok (.ifCond .eq 12, 3) := by decide +kernel
theorem dX9_far_17 : decode cX9_far 17 = .ok (.bipush (-2), 2) := by decide +kernel
theorem dX9_far_19 : decode cX9_far 19 = .ok (.ireturn, 1) := by decide +kernel
theorem dX9_fewest_0 : decode cX9_fewest 0 = .ok (.aload_n 0, 1) := by decide +kernel
theorem dX9_fewest_1 : decode cX9_fewest 1 = .ok (.iload_n 1, 1) := by decide +kernel
theorem dX9_fewest_2 : decode cX9_fewest 2 = .ok (.invokevirtual 424, 3) := by decide +kernel
theorem dX9_fewest_5 : decode cX9_fewest 5 = .ok (.ifCond .ne 6, 3) := by decide +kernel
theorem dX9_fewest_8 : decode cX9_fewest 8 = .ok (.bipush (-2), 2) := by decide +kernel
theorem dX9_fewest_10 : decode cX9_fewest 10 = .ok (.ireturn, 1) := by decide +kernel
theorem dX9_fine_0 : decode cX9_fine 0 = .ok (.aload_n 0, 1) := by decide +kernel
theorem dX9_fine_1 : decode cX9_fine 1 = .ok (.invokevirtual 318, 3) := by decide +kernel
theorem dX9_fine_4 : decode cX9_fine 4 = .ok (.ifCond .eq 10, 3) := by decide +kernel
theorem dX9_fine_14 : decode cX9_fine 14 = .ok (.bipush (-2), 2) := by decide +kernel
theorem dX9_fine_16 : decode cX9_fine 16 = .ok (.ireturn, 1) := by decide +kernel
theorem dX9_fits_0 : decode cX9_fits 0 = .ok (.aload_n 0, 1) := by decide +kernel
theorem dX9_fits_1 : decode cX9_fits 1 = .ok (.iload_n 1, 1) := by decide +kernel
theorem dX9_fits_2 : decode cX9_fits 2 = .ok (.invokevirtual 449, 3) := by decide +kernel
theorem dX9_fits_5 : decode cX9_fits 5 = .ok (.istore_n 2, 1) := by decide +kernel
theorem dX9_fits_6 : decode cX9_fits 6 = .ok (.iload_n 2, 1) := by decide +kernel
theorem dX9_fits_7 : decode cX9_fits 7 = .ok (.ifCond .ge 7, 3) := by decide +kernel
theorem dX9_fits_10 : decode cX9_fits 10 = .ok (.iload_n 2, 1) := by decide +kernel
theorem dX9_fits_11 : decode cX9_fits 11 = .ok (.goto 7, 3) := by decide +kernel
theorem dX9_fits_18 : decode cX9_fits 18 = .ok (.ireturn, 1) := by decide +kernel
theorem dX9_freely_0 : decode cX9_freely 0 = .ok (.aload_n 0, 1) := by decide +kernel
theorem dX9_freely_1 : decode cX9_freely 1 = .ok (.iload_n 1, 1) := by decide +kernel
theorem dX9_freely_2 : decode cX9_freely 2 = .ok (.invokevirtual 354, 3) := by decide +kernel
theorem dX9_freely_5 : decode cX9_freely 5 = .ok (.ifCond .eq 26, 3) := by decide +kernel
theorem dX9_freely_31 : decode cX9_freely 31 = .ok (.bipush (-2), 2) := by decide +kernel
theorem dX9_freely_33 : decode cX9_freely 33 = .ok (.ireturn, 1) := by decide +kernel
theorem dX9_frees_0 : decode cX9_frees 0 = .ok (.aload_n 0, 1) := by decide +kernel
theorem dX9_frees_1 : decode cX9_frees 1 = .ok (.iload_n 1, 1) := by decide +kernel
theorem dX9_frees_2 : decode cX9_frees 2 = .ok (.invokevirtual 267, 3) := by decide +kernel
theorem dX9_frees_5 : decode cX9_frees 5 = .ok (.ifCond .eq 15, 3) := by decide +kernel
theorem dX9_frees_20 : decode cX9_frees 20 = .ok (.bipush (-2), 2) := by decide +kernel
theorem dX9_frees_22 : decode cX9_frees 22 = .ok (.ireturn, 1) := by decide +kernel
theorem dX9_gets_0 : decode cX9_gets 0 = .ok (.aload_n 0, 1) := by decide +kernel
theorem dX9_gets_1 : decode cX9_gets 1 = .ok (.iload_n 1, 1) := by decide +kernel
theorem dX9_gets_2 : decode cX9_gets 2 = .ok (.iload_n 2, 1) := by decide +kernel
theorem dX9_gets_3 : decode cX9_gets 3 = .ok (.invokevirtual 474, 3) := by decide +kernel
theorem dX9_gets_6 : decode cX9_gets 6 = .ok (.ifCond .eq 37, 3) := by decide +kernel
theorem dX9_gets_43 : decode cX9_gets 43 = .ok (.ldc_w 466, 3) := by decide +kernel
theorem dX9_gets_46 : decode cX9_gets 46 = .ok (.ireturn, 1) := by decide +kernel
theorem dX9_hard_0 : decode cX9_hard 0 = .ok (.aload_n 0, 1) := by decide +kernel
theorem dX9_hard_1 : decode cX9_hard 1 = .ok (.invokevirtual 318, 3) := by decide +kernel
theorem dX9_hard_4 : decode cX9_hard 4 = .ok (.ifCond .ne 6, 3) := by decide +kernel
theorem dX9_hard_7 : decode cX9_hard 7 = .ok (.bipush (-2), 2) := by decide +kernel
theorem dX9_hard_9 : decode cX9_hard 9 = .ok (.ireturn, 1) := by decide +kernel
theorem dX9_hits_0 : decode cX9_hits 0 = .ok (.aload_n 0, 1) := by decide +kernel
theorem dX9_hits_1 : decode cX9_hits 1 = .ok (.iload_n 2, 1) := by decide +kernel
theorem dX9_hits_2 : decode cX9_hits 2 = .ok (.invokevirtual 399, 3) := by decide +kernel
theorem dX9_hits_5 : decode cX9_hits 5 = .ok (.ifCond .eq 20, 3) := by decide +kernel
theorem dX9_hits_25 : decode cX9_hits 25 = .ok (.bipush (-2), 2) := by decide +kernel
theorem dX9_hits_27 : decode cX9_hits 27 = .ok (.ireturn, 1) := by decide +kernel
theorem dX9_holds_0 : decode cX9_holds 0 = .ok (.aload_n 0, 1) := by decide +kernel
theorem dX9_holds_1 : decode cX9_holds 1 = .ok (.iload_n 2, 1) := by decide +kernel
theorem dX9_holds_2 : decode cX9_holds 2 = .ok (.i2l, 1) := by decide +kernel
theorem dX9_holds_3 : decode cX9_holds 3 = .ok (.invokevirtual 314, 3) := by decide +kernel
theorem dX9_holds_6 : decode cX9_holds 6 = .ok (.ifCond .eq 11, 3) := by decide +kernel
theorem dX9_holds_17 : decode cX9_holds 17 = .ok (.bipush (-2), 2) := by decide +kernel
theorem dX9_holds_19 : decode cX9_holds 19 = .ok (.ireturn, 1) := by decide +kernel
theorem dX9_hot_0 : decode cX9_hot 0 = .ok (.aload_n 0, 1) := by decide +kernel
theorem dX9_hot_1 : decode cX9_hot 1 = .ok (.invokevirtual 318, 3) := by decide +kernel
theorem dX9_hot_4 : decode cX9_hot 4 = .ok (.ifCond .eq 10, 3) := by decide +kernel
theorem dX9_hot_14 : decode cX9_hot 14 = .ok (.bipush (-2), 2) := by decide +kernel
theorem dX9_hot_16 : decode cX9_hot 16 = .ok (.ireturn, 1) := by decide +kernel
theorem dX9_known_0 : decode cX9_known 0 = .ok (.aload_n 0, 1) := by decide +kernel
theorem dX9_known_1 : decode cX9_known 1 = .ok (.iload_n 1, 1) := by decide +kernel
theorem dX9_known_2 : decode cX9_known 2 = .ok (.invokevirtual 256, 3) := by decide +kernel
theorem dX9_known_5 : decode cX9_known 5 = .ok (.ifCond .ne 6, 3) := by decide +kernel
theorem dX9_known_8 : decode cX9_known 8 = .ok (.bipush (-2), 2) := by decide +kernel
theorem dX9_known_10 : decode cX9_known 10 = .ok (.ireturn, 1) := by decide +kernel
theorem dX9_law_0 : decode cX9_law 0 = .ok (.aload_n 0, 1) := by decide +kernel
theorem dX9_law_1 : decode cX9_law 1 = .ok (.invokevirtual 318, 3) := by decide +kernel
theorem dX9_law_4 : decode cX9_law 4 = .ok (.ifCond .ne 6, 3) := by decide +kernel
theorem dX9_law_7 : decode cX9_law 7 = .ok (.bipush (-2), 2) := by decide +kernel
theorem dX9_law_9 : decode cX9_law 9 = .ok (.ireturn, 1) := by decide +kernel
theorem dX9_laws_0 : decode cX9_laws 0 = .ok (.aload_n 0, 1) := by decide +kernel
theorem dX9_laws_1 : decode cX9_laws 1 = .ok (.iload_n 1, 1) := by decide +kernel
theorem dX9_laws_2 : decode cX9_laws 2 = .ok (.invokevirtual 443, 3) := by decide +kernel
theorem dX9_laws_5 : decode cX9_laws 5 = .ok (.istore_n 2, 1) := by decide +kernel
theorem dX9_laws_6 : decode cX9_laws 6 = .ok (.iload_n 2, 1) := by decide +kernel
theorem dX9_laws_7 : decode cX9_laws 7 = .ok (.ifCond .ge 5, 3) := by decide +kernel
theorem dX9_laws_10 : decode cX9_laws 10 = .ok (.iload_n 2, 1) := by decide +kernel
theorem dX9_laws_11 : decode cX9_laws 11 = .ok (.ireturn, 1) := by decide +kernel
theorem dX9_least_0 : decode cX9_least 0 = .ok (.aload_n 0, 1) := by decide +kernel
theorem dX9_least_1 : decode cX9_least 1 = .ok (.iload_n 1, 1) := by decide +kernel
theorem dX9_least_2 : decode cX9_least 2 = .ok (.invokevirtual 399, 3) := by decide +kernel
theorem dX9_least_5 : decode cX9_least 5 = .ok (.ifCond .eq 15, 3) := by decide +kernel
theorem dX9_least_20 : decode cX9_least 20 = .ok (.bipush (-2), 2) := by decide +kernel
theorem dX9_least_22 : decode cX9_least 22 = .ok (.ireturn, 1) := by decide +kernel
theorem dX9_lock_0 : decode cX9_lock 0 = .ok (.aload_n 0, 1) := by decide +kernel
theorem dX9_lock_1 : decode cX9_lock 1 = .ok (.iload_n 1, 1) := by decide +kernel
theorem dX9_lock_2 : decode cX9_lock 2 = .ok (.invokevirtual 267, 3) := by decide +kernel
theorem dX9_lock_5 : decode cX9_lock 5 = .ok (.ifCond .eq 14, 3) := by decide +kernel
theorem dX9_lock_19 : decode cX9_lock 19 = .ok (.bipush (-2), 2) := by decide +kernel
theorem dX9_lock_21 : decode cX9_lock 21 = .ok (.ireturn, 1) := by decide +kernel
theorem dX9_locked_0 : decode cX9_locked 0 = .ok (.aload_n 0, 1) := by decide +kernel
theorem dX9_locked_1 : decode cX9_locked 1 = .ok (.invokevirtual 318, 3) := by decide +kernel
theorem dX9_locked_4 : decode cX9_locked 4 = .ok (.ifCond .eq 10, 3) := by decide +kernel
theorem dX9_locked_14 : decode cX9_locked 14 = .ok (.bipush (-2), 2) := by decide +kernel
theorem dX9_locked_16 : decode cX9_locked 16 = .ok (.ireturn, 1) := by decide +kernel
theorem dX9_locks_0 : decode cX9_locks 0 = .ok (.aload_n 0, 1) := by decide +kernel
theorem dX9_locks_1 : decode cX9_locks 1 = .ok (.iload_n 1, 1) := by decide +kernel
theorem dX9_locks_2 : decode cX9_locks 2 = .ok (.invokevirtual 424, 3) := by decide +kernel
theorem dX9_locks_5 : decode cX9_locks 5 = .ok (.ifCond .eq 10, 3) := by decide +kernel
theorem dX9_locks_15 : decode cX9_locks 15 = .ok (.bipush (-2), 2) := by decide +kernel
theorem dX9_locks_17 : decode cX9_locks 17 = .ok (.ireturn, 1) := by decide +kernel
theorem dX9_luck_0 : decode cX9_luck 0 = .ok (.aload_n 0, 1) := by decide +kernel
theorem dX9_luck_1 : decode cX9_luck 1 = .ok (.invokevirtual 92, 3) := by decide +kernel
theorem dX9_luck_4 : decode cX9_luck 4 = .ok (.ifCond .eq 22, 3) := by decide +kernel
theorem dX9_luck_26 : decode cX9_luck 26 = .ok (.bipush (-2), 2) := by decide +kernel
theorem dX9_luck_28 : decode cX9_luck 28 = .ok (.ireturn, 1) := by decide +kernel
theorem dX9_mean_0 : decode cX9_mean 0 = .ok (.aload_n 0, 1) := by decide +kernel
theorem dX9_mean_1 : decode cX9_mean 1 = .ok (.iload_n 1, 1) := by decide +kernel
theorem dX9_mean_2 : decode cX9_mean 2 = .ok (.invokevirtual 494, 3) := by decide +kernel
theorem dX9_mean_5 : decode cX9_mean 5 = .ok (.ifCond .eq 18, 3) := by decide +kernel
theorem dX9_mean_23 : decode cX9_mean 23 = .ok (.ldc2_w 497, 3) := by decide +kernel
theorem dX9_mean_26 : decode cX9_mean 26 = .ok (.lreturn, 1) := by decide +kernel
theorem dX9_merge_0 : decode cX9_merge 0 = .ok (.aload_n 0, 1) := by decide +kernel
theorem dX9_merge_1 : decode cX9_merge 1 = .ok (.invokevirtual 318, 3) := by decide +kernel
theorem dX9_merge_4 : decode cX9_merge 4 = .ok (.ifCond .eq 40, 3) := by decide +kernel
theorem dX9_merge_44 : decode cX9_merge 44 = .ok (.bipush (-2), 2) := by decide +kernel
theorem dX9_merge_46 : decode cX9_merge 46 = .ok (.ireturn, 1) := by decide +kernel
theorem dX9_nearest_0 : decode cX9_nearest 0 = .ok (.aload_n 0, 1) := by decide +kernel
theorem dX9_nearest_1 : decode cX9_nearest 1 = .ok (.invokevirtual 318, 3) := by decide +kernel
theorem dX9_nearest_4 : decode cX9_nearest 4 = .ok (.ifCond .eq 12, 3) := by decide +kernel
theorem dX9_nearest_16 : decode cX9_nearest 16 = .ok (.bipush (-2), 2) := by decide +kernel
theorem dX9_nearest_18 : decode cX9_nearest 18 = .ok (.ireturn, 1) := by decide +kernel
theorem dX9_needed_0 : decode cX9_needed 0 = .ok (.aload_n 0, 1) := by decide +kernel
theorem dX9_needed_1 : decode cX9_needed 1 = .ok (.iload_n 1, 1) := by decide +kernel
theorem dX9_needed_2 : decode cX9_needed 2 = .ok (.invokevirtual 424, 3) := by decide +kernel
theorem dX9_needed_5 : decode cX9_needed 5 = .ok (.ifCond .eq 10, 3) := by decide +kernel
theorem dX9_needed_15 : decode cX9_needed 15 = .ok (.bipush (-2), 2) := by decide +kernel
theorem dX9_needed_17 : decode cX9_needed 17 = .ok (.ireturn, 1) := by decide +kernel
theorem dX9_op_0 : decode cX9_op 0 = .ok (.aload_n 0, 1) := by decide +kernel
theorem dX9_op_1 : decode cX9_op 1 = .ok (.iload_n 1, 1) := by decide +kernel
theorem dX9_op_2 : decode cX9_op 2 = .ok (.invokevirtual 267, 3) := by decide +kernel
theorem dX9_op_5 : decode cX9_op 5 = .ok (.ifCond .eq 15, 3) := by decide +kernel
theorem dX9_op_20 : decode cX9_op 20 = .ok (.bipush (-2), 2) := by decide +kernel
theorem dX9_op_22 : decode cX9_op 22 = .ok (.ireturn, 1) := by decide +kernel
theorem dX9_opens_0 : decode cX9_opens 0 = .ok (.aload_n 0, 1) := by decide +kernel
theorem dX9_opens_1 : decode cX9_opens 1 = .ok (.invokevirtual 318, 3) := by decide +kernel
theorem dX9_opens_4 : decode cX9_opens 4 = .ok (.ifCond .eq 20, 3) := by decide +kernel
theorem dX9_opens_24 : decode cX9_opens 24 = .ok (.bipush (-2), 2) := by decide +kernel
theorem dX9_opens_26 : decode cX9_opens 26 = .ok (.ireturn, 1) := by decide +kernel
theorem dX9_pairs_0 : decode cX9_pairs 0 = .ok (.aload_n 0, 1) := by decide +kernel
theorem dX9_pairs_1 : decode cX9_pairs 1 = .ok (.iload_n 1, 1) := by decide +kernel
theorem dX9_pairs_2 : decode cX9_pairs 2 = .ok (.invokevirtual 399, 3) := by decide +kernel
theorem dX9_pairs_5 : decode cX9_pairs 5 = .ok (.ifCond .ne 6, 3) := by decide +kernel
theorem dX9_pairs_8 : decode cX9_pairs 8 = .ok (.bipush (-2), 2) := by decide +kernel
theorem dX9_pairs_10 : decode cX9_pairs 10 = .ok (.ireturn, 1) := by decide +kernel
theorem dX9_rate_0 : decode cX9_rate 0 = .ok (.aload_n 0, 1) := by decide +kernel
theorem dX9_rate_1 : decode cX9_rate 1 = .ok (.iload_n 1, 1) := by decide +kernel
theorem dX9_rate_2 : decode cX9_rate 2 = .ok (.invokevirtual 252, 3) := by decide +kernel
theorem dX9_rate_5 : decode cX9_rate 5 = .ok (.ifCond .eq 15, 3) := by decide +kernel
theorem dX9_rate_20 : decode cX9_rate 20 = .ok (.bipush (-2), 2) := by decide +kernel
theorem dX9_rate_22 : decode cX9_rate 22 = .ok (.ireturn, 1) := by decide +kernel
theorem dX9_reach_0 : decode cX9_reach 0 = .ok (.aload_n 0, 1) := by decide +kernel
theorem dX9_reach_1 : decode cX9_reach 1 = .ok (.iload_n 1, 1) := by decide +kernel
theorem dX9_reach_2 : decode cX9_reach 2 = .ok (.invokevirtual 354, 3) := by decide +kernel
theorem dX9_reach_5 : decode cX9_reach 5 = .ok (.ifCond .eq 26, 3) := by decide +kernel
theorem dX9_reach_31 : decode cX9_reach 31 = .ok (.bipush (-2), 2) := by decide +kernel
theorem dX9_reach_33 : decode cX9_reach 33 = .ok (.ireturn, 1) := by decide +kernel
theorem dX9_rests_0 : decode cX9_rests 0 = .ok (.aload_n 0, 1) := by decide +kernel
theorem dX9_rests_1 : decode cX9_rests 1 = .ok (.iload_n 1, 1) := by decide +kernel
theorem dX9_rests_2 : decode cX9_rests 2 = .ok (.iload_n 2, 1) := by decide +kernel
theorem dX9_rests_3 : decode cX9_rests 3 = .ok (.invokevirtual 474, 3) := by decide +kernel
theorem dX9_rests_6 : decode cX9_rests 6 = .ok (.ifCond .ne 6, 3) := by decide +kernel
theorem dX9_rests_9 : decode cX9_rests 9 = .ok (.bipush (-2), 2) := by decide +kernel
theorem dX9_rests_11 : decode cX9_rests 11 = .ok (.ireturn, 1) := by decide +kernel
theorem dX9_room_0 : decode cX9_room 0 = .ok (.aload_n 0, 1) := by decide +kernel
theorem dX9_room_1 : decode cX9_room 1 = .ok (.invokevirtual 318, 3) := by decide +kernel
theorem dX9_room_4 : decode cX9_room 4 = .ok (.ifCond .eq 11, 3) := by decide +kernel
theorem dX9_room_15 : decode cX9_room 15 = .ok (.bipush (-2), 2) := by decide +kernel
theorem dX9_room_17 : decode cX9_room 17 = .ok (.ireturn, 1) := by decide +kernel
theorem dX9_rule_0 : decode cX9_rule 0 = .ok (.aload_n 0, 1) := by decide +kernel
theorem dX9_rule_1 : decode cX9_rule 1 = .ok (.iload_n 1, 1) := by decide +kernel
theorem dX9_rule_2 : decode cX9_rule 2 = .ok (.invokevirtual 256, 3) := by decide +kernel
theorem dX9_rule_5 : decode cX9_rule 5 = .ok (.ifCond .eq 15, 3) := by decide +kernel
theorem dX9_rule_20 : decode cX9_rule 20 = .ok (.bipush (-2), 2) := by decide +kernel
theorem dX9_rule_22 : decode cX9_rule 22 = .ok (.ireturn, 1) := by decide +kernel
theorem dX9_safe_0 : decode cX9_safe 0 = .ok (.aload_n 0, 1) := by decide +kernel
theorem dX9_safe_1 : decode cX9_safe 1 = .ok (.iload_n 1, 1) := by decide +kernel
theorem dX9_safe_2 : decode cX9_safe 2 = .ok (.invokevirtual 399, 3) := by decide +kernel
theorem dX9_safe_5 : decode cX9_safe 5 = .ok (.ifCond .ne 6, 3) := by decide +kernel
theorem dX9_safe_8 : decode cX9_safe 8 = .ok (.bipush (-2), 2) := by decide +kernel
theorem dX9_safe_10 : decode cX9_safe 10 = .ok (.ireturn, 1) := by decide +kernel
theorem dX9_share_0 : decode cX9_share 0 = .ok (.aload_n 0, 1) := by decide +kernel
theorem dX9_share_1 : decode cX9_share 1 = .ok (.iload_n 1, 1) := by decide +kernel
theorem dX9_share_2 : decode cX9_share 2 = .ok (.invokevirtual 256, 3) := by decide +kernel
theorem dX9_share_5 : decode cX9_share 5 = .ok (.ifCond .eq 13, 3) := by decide +kernel
theorem dX9_share_18 : decode cX9_share 18 = .ok (.ldc_w 466, 3) := by decide +kernel
theorem dX9_share_21 : decode cX9_share 21 = .ok (.ireturn, 1) := by decide +kernel
theorem dX9_spare_0 : decode cX9_spare 0 = .ok (.aload_n 0, 1) := by decide +kernel
theorem dX9_spare_1 : decode cX9_spare 1 = .ok (.invokevirtual 318, 3) := by decide +kernel
theorem dX9_spare_4 : decode cX9_spare 4 = .ok (.ifCond .eq 11, 3) := by decide +kernel
theorem dX9_spare_15 : decode cX9_spare 15 = .ok (.bipush (-2), 2) := by decide +kernel
theorem dX9_spare_17 : decode cX9_spare 17 = .ok (.ireturn, 1) := by decide +kernel
theorem dX9_states_0 : decode cX9_states 0 = .ok (.aload_n 0, 1) := by decide +kernel
theorem dX9_states_1 : decode cX9_states 1 = .ok (.invokevirtual 92, 3) := by decide +kernel
theorem dX9_states_4 : decode cX9_states 4 = .ok (.ifCond .eq 10, 3) := by decide +kernel
theorem dX9_states_14 : decode cX9_states 14 = .ok (.bipush (-2), 2) := by decide +kernel
theorem dX9_states_16 : decode cX9_states 16 = .ok (.ireturn, 1) := by decide +kernel
theorem dX9_step_0 : decode cX9_step 0 = .ok (.aload_n 0, 1) := by decide +kernel
theorem dX9_step_1 : decode cX9_step 1 = .ok (.iload_n 1, 1) := by decide +kernel
theorem dX9_step_2 : decode cX9_step 2 = .ok (.invokevirtual 354, 3) := by decide +kernel
theorem dX9_step_5 : decode cX9_step 5 = .ok (.ifCond .eq 12, 3) := by decide +kernel
theorem dX9_step_17 : decode cX9_step 17 = .ok (.bipush (-2), 2) := by decide +kernel
theorem dX9_step_19 : decode cX9_step 19 = .ok (.ireturn, 1) := by decide +kernel
theorem dX9_table_0 : decode cX9_table 0 = .ok (.aload_n 0, 1) := by decide +kernel
theorem dX9_table_1 : decode cX9_table 1 = .ok (.invokevirtual 318, 3) := by decide +kernel
theorem dX9_table_4 : decode cX9_table 4 = .ok (.ifCond .ne 6, 3) := by decide +kernel
theorem dX9_table_7 : decode cX9_table 7 = .ok (.bipush (-2), 2) := by decide +kernel
theorem dX9_table_9 : decode cX9_table 9 = .ok (.ireturn, 1) := by decide +kernel
theorem dX9_undo_0 : decode cX9_undo 0 = .ok (.aload_n 0, 1) := by decide +kernel
theorem dX9_undo_1 : decode cX9_undo 1 = .ok (.invokevirtual 92, 3) := by decide +kernel
theorem dX9_undo_4 : decode cX9_undo 4 = .ok (.ifCond .ne 6, 3) := by decide +kernel
theorem dX9_undo_7 : decode cX9_undo 7 = .ok (.bipush (-2), 2) := by decide +kernel
theorem dX9_undo_9 : decode cX9_undo 9 = .ok (.ireturn, 1) := by decide +kernel
theorem dX9_valid_0 : decode cX9_valid 0 = .ok (.aload_n 0, 1) := by decide +kernel
theorem dX9_valid_1 : decode cX9_valid 1 = .ok (.invokevirtual 318, 3) := by decide +kernel
theorem dX9_valid_4 : decode cX9_valid 4 = .ok (.ifCond .eq 12, 3) := by decide +kernel
theorem dX9_valid_16 : decode cX9_valid 16 = .ok (.bipush (-2), 2) := by decide +kernel
theorem dX9_valid_18 : decode cX9_valid 18 = .ok (.ireturn, 1) := by decide +kernel
theorem dX9_valids_0 : decode cX9_valids 0 = .ok (.aload_n 0, 1) := by decide +kernel
theorem dX9_valids_1 : decode cX9_valids 1 = .ok (.invokevirtual 318, 3) := by decide +kernel
theorem dX9_valids_4 : decode cX9_valids 4 = .ok (.ifCond .eq 10, 3) := by decide +kernel
theorem dX9_valids_14 : decode cX9_valids 14 = .ok (.bipush (-2), 2) := by decide +kernel
theorem dX9_valids_16 : decode cX9_valids 16 = .ok (.ireturn, 1) := by decide +kernel
theorem dX9_value_0 : decode cX9_value 0 = .ok (.aload_n 0, 1) := by decide +kernel
theorem dX9_value_1 : decode cX9_value 1 = .ok (.iload_n 1, 1) := by decide +kernel
theorem dX9_value_2 : decode cX9_value 2 = .ok (.i2l, 1) := by decide +kernel
theorem dX9_value_3 : decode cX9_value 3 = .ok (.invokevirtual 314, 3) := by decide +kernel
theorem dX9_value_6 : decode cX9_value 6 = .ok (.ifCond .eq 20, 3) := by decide +kernel
theorem dX9_value_26 : decode cX9_value 26 = .ok (.bipush (-2), 2) := by decide +kernel
theorem dX9_value_28 : decode cX9_value 28 = .ok (.ireturn, 1) := by decide +kernel
theorem dX9_weight_0 : decode cX9_weight 0 = .ok (.aload_n 0, 1) := by decide +kernel
theorem dX9_weight_1 : decode cX9_weight 1 = .ok (.iload_n 1, 1) := by decide +kernel
theorem dX9_weight_2 : decode cX9_weight 2 = .ok (.i2l, 1) := by decide +kernel
theorem dX9_weight_3 : decode cX9_weight 3 = .ok (.invokevirtual 314, 3) := by decide +kernel
theorem dX9_weight_6 : decode cX9_weight 6 = .ok (.ifCond .ne 6, 3) := by decide +kernel
theorem dX9_weight_9 : decode cX9_weight 9 = .ok (.bipush (-2), 2) := by decide +kernel
theorem dX9_weight_11 : decode cX9_weight 11 = .ok (.ireturn, 1) := by decide +kernel
theorem dX9_which_0 : decode cX9_which 0 = .ok (.aload_n 0, 1) := by decide +kernel
theorem dX9_which_1 : decode cX9_which 1 = .ok (.iload_n 1, 1) := by decide +kernel
theorem dX9_which_2 : decode cX9_which 2 = .ok (.invokevirtual 449, 3) := by decide +kernel
theorem dX9_which_5 : decode cX9_which 5 = .ok (.istore_n 2, 1) := by decide +kernel
theorem dX9_which_6 : decode cX9_which 6 = .ok (.iload_n 2, 1) := by decide +kernel
theorem dX9_which_7 : decode cX9_which 7 = .ok (.ifCond .ge 7, 3) := by decide +kernel
theorem dX9_which_10 : decode cX9_which 10 = .ok (.iload_n 2, 1) := by decide +kernel
theorem dX9_which_11 : decode cX9_which 11 = .ok (.goto 7, 3) := by decide +kernel
theorem dX9_which_18 : decode cX9_which 18 = .ok (.ireturn, 1) := by decide +kernel
theorem dX9_works_0 : decode cX9_works 0 = .ok (.aload_n 0, 1) := by decide +kernel
theorem dX9_works_1 : decode cX9_works 1 = .ok (.invokevirtual 318, 3) := by decide +kernel
theorem dX9_works_4 : decode cX9_works 4 = .ok (.ifCond .eq 19, 3) := by decide +kernel
theorem dX9_works_23 : decode cX9_works 23 = .ok (.bipush (-2), 2) := by decide +kernel
theorem dX9_works_25 : decode cX9_works 25 = .ok (.ireturn, 1) := by decide +kernel
theorem dX9_worst_0 : decode cX9_worst 0 = .ok (.aload_n 0, 1) := by decide +kernel
theorem dX9_worst_1 : decode cX9_worst 1 = .ok (.iload_n 1, 1) := by decide +kernel
theorem dX9_worst_2 : decode cX9_worst 2 = .ok (.invokevirtual 399, 3) := by decide +kernel
theorem dX9_worst_5 : decode cX9_worst 5 = .ok (.ifCond .ne 6, 3) := by decide +kernel
theorem dX9_worst_8 : decode cX9_worst 8 = .ok (.bipush (-2), 2) := by decide +kernel
theorem dX9_worst_10 : decode cX9_worst 10 = .ok (.ireturn, 1) := by decide +kernel
theorem dX9_worth_0 : decode cX9_worth 0 = .ok (.aload_n 0, 1) := by decide +kernel
theorem dX9_worth_1 : decode cX9_worth 1 = .ok (.invokevirtual 92, 3) := by decide +kernel
theorem dX9_worth_4 : decode cX9_worth 4 = .ok (.ifCond .eq 25, 3) := by decide +kernel
theorem dX9_worth_29 : decode cX9_worth 29 = .ok (.bipush (-2), 2) := by decide +kernel
theorem dX9_worth_31 : decode cX9_worth 31 = .ok (.ireturn, 1) := by decide +kernel
theorem gw_X9_all_X9_asksIn : GoodIn W_X9_all W_X9_asksIn := fun w h => ⟨List.mem_cons_of_mem _ (List.mem_append_right _ (List.mem_append_right _ (h))), (wI_X9_asksIn w h).2⟩
theorem gc_X9_all_399_X9_asksIn : GoodIn W_X9_all (wsV RX9 399 RX9 yX9_asksIn W_X9_asksIn) := goodIn_app (goodIn_sub (List.forall_mem_cons.mpr ⟨List.mem_cons_of_mem _ (List.mem_append_left _ (List.mem_of_getElem? (i := 0) rfl)), List.forall_mem_cons.mpr ⟨List.mem_cons_of_mem _ (List.mem_append_left _ (List.mem_of_getElem? (i := 1) rfl)), List.forall_mem_cons.mpr ⟨List.mem_cons_of_mem _ (List.mem_append_left _ (List.mem_of_getElem? (i := 2) rfl)), List.forall_mem_cons.mpr ⟨List.mem_cons_of_mem _ (List.mem_append_left _ (List.mem_of_getElem? (i := 3) rfl)), fun _ h => absurd h List.not_mem_nil⟩⟩⟩⟩) (by decide +kernel)) gw_X9_all_X9_asksIn
theorem gw_X9_alone_X9_asks : GoodIn W_X9_alone W_X9_asks := fun w h => ⟨List.mem_cons_of_mem _ (List.mem_append_right _ (List.mem_append_right _ (List.mem_append_left _ (h)))), (wI_X9_asks w h).2⟩
theorem gc_X9_alone_318_X9_asks : GoodIn W_X9_alone (wsV RX9 318 RX9 yX9_asks W_X9_asks) := goodIn_app (goodIn_sub (List.forall_mem_cons.mpr ⟨List.mem_cons_of_mem _ (List.mem_append_left _ (List.mem_of_getElem? (i := 0) rfl)), List.forall_mem_cons.mpr ⟨List.mem_cons_of_mem _ (List.mem_append_left _ (List.mem_of_getElem? (i := 1) rfl)), List.forall_mem_cons.mpr ⟨List.mem_cons_of_mem _ (List.mem_append_left _ (List.mem_of_getElem? (i := 2) rfl)), List.forall_mem_cons.mpr ⟨List.mem_cons_of_mem _ (List.mem_append_left _ (List.mem_of_getElem? (i := 3) rfl)), fun _ h => absurd h List.not_mem_nil⟩⟩⟩⟩) (by decide +kernel)) gw_X9_alone_X9_asks
theorem gw_X9_anew_X9_isBase : GoodIn W_X9_anew W_X9_isBase := fun w h => ⟨List.mem_cons_of_mem _ (List.mem_append_right _ (List.mem_append_right _ (h))), (wI_X9_isBase w h).2⟩
theorem gc_X9_anew_92_X9_isBase : GoodIn W_X9_anew (wsV RX9 92 RX9 yX9_isBase W_X9_isBase) := goodIn_app (goodIn_sub (List.forall_mem_cons.mpr ⟨List.mem_cons_of_mem _ (List.mem_append_left _ (List.mem_of_getElem? (i := 0) rfl)), List.forall_mem_cons.mpr ⟨List.mem_cons_of_mem _ (List.mem_append_left _ (List.mem_of_getElem? (i := 1) rfl)), List.forall_mem_cons.mpr ⟨List.mem_cons_of_mem _ (List.mem_append_left _ (List.mem_of_getElem? (i := 2) rfl)), List.forall_mem_cons.mpr ⟨List.mem_cons_of_mem _ (List.mem_append_left _ (List.mem_of_getElem? (i := 3) rfl)), fun _ h => absurd h List.not_mem_nil⟩⟩⟩⟩) (by decide +kernel)) gw_X9_anew_X9_isBase
theorem gw_X9_asked_X9_asksSides : GoodIn W_X9_asked W_X9_asksSides := fun w h => ⟨List.mem_cons_of_mem _ (List.mem_append_right _ (List.mem_append_right _ (List.mem_append_left _ (h)))), (wI_X9_asksSides w h).2⟩
theorem gc_X9_asked_354_X9_asksSides : GoodIn W_X9_asked (wsV RX9 354 RX9 yX9_asksSides W_X9_asksSides) := goodIn_app (goodIn_sub (List.forall_mem_cons.mpr ⟨List.mem_cons_of_mem _ (List.mem_append_left _ (List.mem_of_getElem? (i := 0) rfl)), List.forall_mem_cons.mpr ⟨List.mem_cons_of_mem _ (List.mem_append_left _ (List.mem_of_getElem? (i := 1) rfl)), List.forall_mem_cons.mpr ⟨List.mem_cons_of_mem _ (List.mem_append_left _ (List.mem_of_getElem? (i := 2) rfl)), List.forall_mem_cons.mpr ⟨List.mem_cons_of_mem _ (List.mem_append_left _ (List.mem_of_getElem? (i := 3) rfl)), fun _ h => absurd h List.not_mem_nil⟩⟩⟩⟩) (by decide +kernel)) gw_X9_asked_X9_asksSides
theorem gw_X9_bad_X9_asks : GoodIn W_X9_bad W_X9_asks := fun w h => ⟨List.mem_cons_of_mem _ (List.mem_append_right _ (List.mem_append_left _ (h))), (wI_X9_asks w h).2⟩
theorem gc_X9_bad_318_X9_asks : GoodIn W_X9_bad (wsV RX9 318 RX9 yX9_asks W_X9_asks) := goodIn_app (goodIn_sub (List.forall_mem_cons.mpr ⟨List.mem_cons_of_mem _ (List.mem_append_left _ (List.mem_of_getElem? (i := 0) rfl)), List.forall_mem_cons.mpr ⟨List.mem_cons_of_mem _ (List.mem_append_left _ (List.mem_of_getElem? (i := 1) rfl)), List.forall_mem_cons.mpr ⟨List.mem_cons_of_mem _ (List.mem_append_left _ (List.mem_of_getElem? (i := 2) rfl)), List.forall_mem_cons.mpr ⟨List.mem_cons_of_mem _ (List.mem_append_left _ (List.mem_of_getElem? (i := 3) rfl)), fun _ h => absurd h List.not_mem_nil⟩⟩⟩⟩) (by decide +kernel)) gw_X9_bad_X9_asks
theorem gw_X9_bare_X9_asks : GoodIn W_X9_bare W_X9_asks := fun w h => ⟨List.mem_cons_of_mem _ (List.mem_append_right _ (List.mem_append_left _ (h))), (wI_X9_asks w h).2⟩
theorem gc_X9_bare_318_X9_asks : GoodIn W_X9_bare (wsV RX9 318 RX9 yX9_asks W_X9_asks) := goodIn_app (goodIn_sub (List.forall_mem_cons.mpr ⟨List.mem_cons_of_mem _ (List.mem_append_left _ (List.mem_of_getElem? (i := 0) rfl)), List.forall_mem_cons.mpr ⟨List.mem_cons_of_mem _ (List.mem_append_left _ (List.mem_of_getElem? (i := 1) rfl)), List.forall_mem_cons.mpr ⟨List.mem_cons_of_mem _ (List.mem_append_left _ (List.mem_of_getElem? (i := 2) rfl)), List.forall_mem_cons.mpr ⟨List.mem_cons_of_mem _ (List.mem_append_left _ (List.mem_of_getElem? (i := 3) rfl)), fun _ h => absurd h List.not_mem_nil⟩⟩⟩⟩) (by decide +kernel)) gw_X9_bare_X9_asks
theorem gw_X9_blame_X9_asks : GoodIn W_X9_blame W_X9_asks := fun w h => ⟨List.mem_cons_of_mem _ (List.mem_append_right _ (List.mem_append_right _ (List.mem_append_left _ (h)))), (wI_X9_asks w h).2⟩
theorem gc_X9_blame_318_X9_asks : GoodIn W_X9_blame (wsV RX9 318 RX9 yX9_asks W_X9_asks) := goodIn_app (goodIn_sub (List.forall_mem_cons.mpr ⟨List.mem_cons_of_mem _ (List.mem_append_left _ (List.mem_of_getElem? (i := 0) rfl)), List.forall_mem_cons.mpr ⟨List.mem_cons_of_mem _ (List.mem_append_left _ (List.mem_of_getElem? (i := 1) rfl)), List.forall_mem_cons.mpr ⟨List.mem_cons_of_mem _ (List.mem_append_left _ (List.mem_of_getElem? (i := 2) rfl)), List.forall_mem_cons.mpr ⟨List.mem_cons_of_mem _ (List.mem_append_left _ (List.mem_of_getElem? (i := 3) rfl)), fun _ h => absurd h List.not_mem_nil⟩⟩⟩⟩) (by decide +kernel)) gw_X9_blame_X9_asks
theorem gw_X9_bound_X9_asks : GoodIn W_X9_bound W_X9_asks := fun w h => ⟨List.mem_cons_of_mem _ (List.mem_append_right _ (List.mem_append_left _ (h))), (wI_X9_asks w h).2⟩
theorem gc_X9_bound_318_X9_asks : GoodIn W_X9_bound (wsV RX9 318 RX9 yX9_asks W_X9_asks) := goodIn_app (goodIn_sub (List.forall_mem_cons.mpr ⟨List.mem_cons_of_mem _ (List.mem_append_left _ (List.mem_of_getElem? (i := 0) rfl)), List.forall_mem_cons.mpr ⟨List.mem_cons_of_mem _ (List.mem_append_left _ (List.mem_of_getElem? (i := 1) rfl)), List.forall_mem_cons.mpr ⟨List.mem_cons_of_mem _ (List.mem_append_left _ (List.mem_of_getElem? (i := 2) rfl)), List.forall_mem_cons.mpr ⟨List.mem_cons_of_mem _ (List.mem_append_left _ (List.mem_of_getElem? (i := 3) rfl)), fun _ h => absurd h List.not_mem_nil⟩⟩⟩⟩) (by decide +kernel)) gw_X9_bound_X9_asks
theorem gw_X9_breaks_X9_asks : GoodIn W_X9_breaks W_X9_asks := fun w h => ⟨List.mem_cons_of_mem _ (List.mem_append_right _ (List.mem_append_left _ (h))), (wI_X9_asks w h).2⟩
theorem gc_X9_breaks_318_X9_asks : GoodIn W_X9_breaks (wsV RX9 318 RX9 yX9_asks W_X9_asks) := goodIn_app (goodIn_sub (List.forall_mem_cons.mpr ⟨List.mem_cons_of_mem _ (List.mem_append_left _ (List.mem_of_getElem? (i := 0) rfl)), List.forall_mem_cons.mpr ⟨List.mem_cons_of_mem _ (List.mem_append_left _ (List.mem_of_getElem? (i := 1) rfl)), List.forall_mem_cons.mpr ⟨List.mem_cons_of_mem _ (List.mem_append_left _ (List.mem_of_getElem? (i := 2) rfl)), List.forall_mem_cons.mpr ⟨List.mem_cons_of_mem _ (List.mem_append_left _ (List.mem_of_getElem? (i := 3) rfl)), fun _ h => absurd h List.not_mem_nil⟩⟩⟩⟩) (by decide +kernel)) gw_X9_breaks_X9_asks
theorem gw_X9_by_X9_asks : GoodIn W_X9_by W_X9_asks := fun w h => ⟨List.mem_cons_of_mem _ (List.mem_append_right _ (List.mem_append_left _ (h))), (wI_X9_asks w h).2⟩
theorem gc_X9_by_318_X9_asks : GoodIn W_X9_by (wsV RX9 318 RX9 yX9_asks W_X9_asks) := goodIn_app (goodIn_sub (List.forall_mem_cons.mpr ⟨List.mem_cons_of_mem _ (List.mem_append_left _ (List.mem_of_getElem? (i := 0) rfl)), List.forall_mem_cons.mpr ⟨List.mem_cons_of_mem _ (List.mem_append_left _ (List.mem_of_getElem? (i := 1) rfl)), List.forall_mem_cons.mpr ⟨List.mem_cons_of_mem _ (List.mem_append_left _ (List.mem_of_getElem? (i := 2) rfl)), List.forall_mem_cons.mpr ⟨List.mem_cons_of_mem _ (List.mem_append_left _ (List.mem_of_getElem? (i := 3) rfl)), fun _ h => absurd h List.not_mem_nil⟩⟩⟩⟩) (by decide +kernel)) gw_X9_by_X9_asks
theorem gw_X9_calm_X9_asks : GoodIn W_X9_calm W_X9_asks := fun w h => ⟨List.mem_cons_of_mem _ (List.mem_append_right _ (List.mem_append_right _ (List.mem_append_left _ (h)))), (wI_X9_asks w h).2⟩
theorem gc_X9_calm_318_X9_asks : GoodIn W_X9_calm (wsV RX9 318 RX9 yX9_asks W_X9_asks) := goodIn_app (goodIn_sub (List.forall_mem_cons.mpr ⟨List.mem_cons_of_mem _ (List.mem_append_left _ (List.mem_of_getElem? (i := 0) rfl)), List.forall_mem_cons.mpr ⟨List.mem_cons_of_mem _ (List.mem_append_left _ (List.mem_of_getElem? (i := 1) rfl)), List.forall_mem_cons.mpr ⟨List.mem_cons_of_mem _ (List.mem_append_left _ (List.mem_of_getElem? (i := 2) rfl)), List.forall_mem_cons.mpr ⟨List.mem_cons_of_mem _ (List.mem_append_left _ (List.mem_of_getElem? (i := 3) rfl)), fun _ h => absurd h List.not_mem_nil⟩⟩⟩⟩) (by decide +kernel)) gw_X9_calm_X9_asks
theorem gw_X9_cell_X9_isCell : GoodIn W_X9_cell W_X9_isCell := fun w h => ⟨List.mem_cons_of_mem _ (List.mem_append_right _ (List.mem_append_right _ (h))), (wI_X9_isCell w h).2⟩
theorem gc_X9_cell_252_X9_isCell : GoodIn W_X9_cell (wsV RX9 252 RX9 yX9_isCell W_X9_isCell) := goodIn_app (goodIn_sub (List.forall_mem_cons.mpr ⟨List.mem_cons_of_mem _ (List.mem_append_left _ (List.mem_of_getElem? (i := 0) rfl)), List.forall_mem_cons.mpr ⟨List.mem_cons_of_mem _ (List.mem_append_left _ (List.mem_of_getElem? (i := 1) rfl)), List.forall_mem_cons.mpr ⟨List.mem_cons_of_mem _ (List.mem_append_left _ (List.mem_of_getElem? (i := 2) rfl)), List.forall_mem_cons.mpr ⟨List.mem_cons_of_mem _ (List.mem_append_left _ (List.mem_of_getElem? (i := 3) rfl)), fun _ h => absurd h List.not_mem_nil⟩⟩⟩⟩) (by decide +kernel)) gw_X9_cell_X9_isCell
theorem gw_X9_chance_X9_asksChance : GoodIn W_X9_chance W_X9_asksChance := fun w h => ⟨List.mem_cons_of_mem _ (List.mem_append_right _ (List.mem_append_right _ (List.mem_append_left _ (h)))), (wI_X9_asksChance w h).2⟩
theorem gc_X9_chance_494_X9_asksChance : GoodIn W_X9_chance (wsV RX9 494 RX9 yX9_asksChance W_X9_asksChance) := goodIn_app (goodIn_sub (List.forall_mem_cons.mpr ⟨List.mem_cons_of_mem _ (List.mem_append_left _ (List.mem_of_getElem? (i := 0) rfl)), List.forall_mem_cons.mpr ⟨List.mem_cons_of_mem _ (List.mem_append_left _ (List.mem_of_getElem? (i := 1) rfl)), List.forall_mem_cons.mpr ⟨List.mem_cons_of_mem _ (List.mem_append_left _ (List.mem_of_getElem? (i := 2) rfl)), List.forall_mem_cons.mpr ⟨List.mem_cons_of_mem _ (List.mem_append_left _ (List.mem_of_getElem? (i := 3) rfl)), fun _ h => absurd h List.not_mem_nil⟩⟩⟩⟩) (by decide +kernel)) gw_X9_chance_X9_asksChance
theorem gw_X9_clashes_X9_asks : GoodIn W_X9_clashes W_X9_asks := fun w h => ⟨List.mem_cons_of_mem _ (List.mem_append_right _ (List.mem_append_right _ (List.mem_append_left _ (h)))), (wI_X9_asks w h).2⟩
theorem gc_X9_clashes_318_X9_asks : GoodIn W_X9_clashes (wsV RX9 318 RX9 yX9_asks W_X9_asks) := goodIn_app (goodIn_sub (List.forall_mem_cons.mpr ⟨List.mem_cons_of_mem _ (List.mem_append_left _ (List.mem_of_getElem? (i := 0) rfl)), List.forall_mem_cons.mpr ⟨List.mem_cons_of_mem _ (List.mem_append_left _ (List.mem_of_getElem? (i := 1) rfl)), List.forall_mem_cons.mpr ⟨List.mem_cons_of_mem _ (List.mem_append_left _ (List.mem_of_getElem? (i := 2) rfl)), List.forall_mem_cons.mpr ⟨List.mem_cons_of_mem _ (List.mem_append_left _ (List.mem_of_getElem? (i := 3) rfl)), fun _ h => absurd h List.not_mem_nil⟩⟩⟩⟩) (by decide +kernel)) gw_X9_clashes_X9_asks
theorem gw_X9_commute_X9_asks : GoodIn W_X9_commute W_X9_asks := fun w h => ⟨List.mem_cons_of_mem _ (List.mem_append_right _ (List.mem_append_left _ (h))), (wI_X9_asks w h).2⟩
theorem gc_X9_commute_318_X9_asks : GoodIn W_X9_commute (wsV RX9 318 RX9 yX9_asks W_X9_asks) := goodIn_app (goodIn_sub (List.forall_mem_cons.mpr ⟨List.mem_cons_of_mem _ (List.mem_append_left _ (List.mem_of_getElem? (i := 0) rfl)), List.forall_mem_cons.mpr ⟨List.mem_cons_of_mem _ (List.mem_append_left _ (List.mem_of_getElem? (i := 1) rfl)), List.forall_mem_cons.mpr ⟨List.mem_cons_of_mem _ (List.mem_append_left _ (List.mem_of_getElem? (i := 2) rfl)), List.forall_mem_cons.mpr ⟨List.mem_cons_of_mem _ (List.mem_append_left _ (List.mem_of_getElem? (i := 3) rfl)), fun _ h => absurd h List.not_mem_nil⟩⟩⟩⟩) (by decide +kernel)) gw_X9_commute_X9_asks
theorem gw_X9_culprit_X9_asksIn : GoodIn W_X9_culprit W_X9_asksIn := fun w h => ⟨List.mem_cons_of_mem _ (List.mem_append_right _ (List.mem_append_right _ (List.mem_append_left _ (h)))), (wI_X9_asksIn w h).2⟩
theorem gc_X9_culprit_399_X9_asksIn : GoodIn W_X9_culprit (wsV RX9 399 RX9 yX9_asksIn W_X9_asksIn) := goodIn_app (goodIn_sub (List.forall_mem_cons.mpr ⟨List.mem_cons_of_mem _ (List.mem_append_left _ (List.mem_of_getElem? (i := 0) rfl)), List.forall_mem_cons.mpr ⟨List.mem_cons_of_mem _ (List.mem_append_left _ (List.mem_of_getElem? (i := 1) rfl)), List.forall_mem_cons.mpr ⟨List.mem_cons_of_mem _ (List.mem_append_left _ (List.mem_of_getElem? (i := 2) rfl)), List.forall_mem_cons.mpr ⟨List.mem_cons_of_mem _ (List.mem_append_left _ (List.mem_of_getElem? (i := 3) rfl)), fun _ h => absurd h List.not_mem_nil⟩⟩⟩⟩) (by decide +kernel)) gw_X9_culprit_X9_asksIn
theorem gw_X9_cure_X9_asks : GoodIn W_X9_cure W_X9_asks := fun w h => ⟨List.mem_cons_of_mem _ (List.mem_append_right _ (List.mem_append_right _ (List.mem_append_left _ (h)))), (wI_X9_asks w h).2⟩
theorem gc_X9_cure_318_X9_asks : GoodIn W_X9_cure (wsV RX9 318 RX9 yX9_asks W_X9_asks) := goodIn_app (goodIn_sub (List.forall_mem_cons.mpr ⟨List.mem_cons_of_mem _ (List.mem_append_left _ (List.mem_of_getElem? (i := 0) rfl)), List.forall_mem_cons.mpr ⟨List.mem_cons_of_mem _ (List.mem_append_left _ (List.mem_of_getElem? (i := 1) rfl)), List.forall_mem_cons.mpr ⟨List.mem_cons_of_mem _ (List.mem_append_left _ (List.mem_of_getElem? (i := 2) rfl)), List.forall_mem_cons.mpr ⟨List.mem_cons_of_mem _ (List.mem_append_left _ (List.mem_of_getElem? (i := 3) rfl)), fun _ h => absurd h List.not_mem_nil⟩⟩⟩⟩) (by decide +kernel)) gw_X9_cure_X9_asks
theorem gw_X9_dead_X9_asks : GoodIn W_X9_dead W_X9_asks := fun w h => ⟨List.mem_cons_of_mem _ (List.mem_append_right _ (List.mem_append_right _ (List.mem_append_left _ (h)))), (wI_X9_asks w h).2⟩
theorem gc_X9_dead_318_X9_asks : GoodIn W_X9_dead (wsV RX9 318 RX9 yX9_asks W_X9_asks) := goodIn_app (goodIn_sub (List.forall_mem_cons.mpr ⟨List.mem_cons_of_mem _ (List.mem_append_left _ (List.mem_of_getElem? (i := 0) rfl)), List.forall_mem_cons.mpr ⟨List.mem_cons_of_mem _ (List.mem_append_left _ (List.mem_of_getElem? (i := 1) rfl)), List.forall_mem_cons.mpr ⟨List.mem_cons_of_mem _ (List.mem_append_left _ (List.mem_of_getElem? (i := 2) rfl)), List.forall_mem_cons.mpr ⟨List.mem_cons_of_mem _ (List.mem_append_left _ (List.mem_of_getElem? (i := 3) rfl)), fun _ h => absurd h List.not_mem_nil⟩⟩⟩⟩) (by decide +kernel)) gw_X9_dead_X9_asks
theorem gw_X9_does_X9_asks : GoodIn W_X9_does W_X9_asks := fun w h => ⟨List.mem_cons_of_mem _ (List.mem_append_right _ (List.mem_append_left _ (h))), (wI_X9_asks w h).2⟩
theorem gc_X9_does_318_X9_asks : GoodIn W_X9_does (wsV RX9 318 RX9 yX9_asks W_X9_asks) := goodIn_app (goodIn_sub (List.forall_mem_cons.mpr ⟨List.mem_cons_of_mem _ (List.mem_append_left _ (List.mem_of_getElem? (i := 0) rfl)), List.forall_mem_cons.mpr ⟨List.mem_cons_of_mem _ (List.mem_append_left _ (List.mem_of_getElem? (i := 1) rfl)), List.forall_mem_cons.mpr ⟨List.mem_cons_of_mem _ (List.mem_append_left _ (List.mem_of_getElem? (i := 2) rfl)), List.forall_mem_cons.mpr ⟨List.mem_cons_of_mem _ (List.mem_append_left _ (List.mem_of_getElem? (i := 3) rfl)), fun _ h => absurd h List.not_mem_nil⟩⟩⟩⟩) (by decide +kernel)) gw_X9_does_X9_asks
theorem gw_X9_drawn_X9_isBase : GoodIn W_X9_drawn W_X9_isBase := fun w h => ⟨List.mem_cons_of_mem _ (List.mem_append_right _ (List.mem_append_left _ (h))), (wI_X9_isBase w h).2⟩
theorem gc_X9_drawn_92_X9_isBase : GoodIn W_X9_drawn (wsV RX9 92 RX9 yX9_isBase W_X9_isBase) := goodIn_app (goodIn_sub (List.forall_mem_cons.mpr ⟨List.mem_cons_of_mem _ (List.mem_append_left _ (List.mem_of_getElem? (i := 0) rfl)), List.forall_mem_cons.mpr ⟨List.mem_cons_of_mem _ (List.mem_append_left _ (List.mem_of_getElem? (i := 1) rfl)), List.forall_mem_cons.mpr ⟨List.mem_cons_of_mem _ (List.mem_append_left _ (List.mem_of_getElem? (i := 2) rfl)), List.forall_mem_cons.mpr ⟨List.mem_cons_of_mem _ (List.mem_append_left _ (List.mem_of_getElem? (i := 3) rfl)), fun _ h => absurd h List.not_mem_nil⟩⟩⟩⟩) (by decide +kernel)) gw_X9_drawn_X9_isBase
theorem gw_X9_dropped_X9_asks : GoodIn W_X9_dropped W_X9_asks := fun w h => ⟨List.mem_cons_of_mem _ (List.mem_append_right _ (List.mem_append_right _ (h))), (wI_X9_asks w h).2⟩
theorem gc_X9_dropped_318_X9_asks : GoodIn W_X9_dropped (wsV RX9 318 RX9 yX9_asks W_X9_asks) := goodIn_app (goodIn_sub (List.forall_mem_cons.mpr ⟨List.mem_cons_of_mem _ (List.mem_append_left _ (List.mem_of_getElem? (i := 0) rfl)), List.forall_mem_cons.mpr ⟨List.mem_cons_of_mem _ (List.mem_append_left _ (List.mem_of_getElem? (i := 1) rfl)), List.forall_mem_cons.mpr ⟨List.mem_cons_of_mem _ (List.mem_append_left _ (List.mem_of_getElem? (i := 2) rfl)), List.forall_mem_cons.mpr ⟨List.mem_cons_of_mem _ (List.mem_append_left _ (List.mem_of_getElem? (i := 3) rfl)), fun _ h => absurd h List.not_mem_nil⟩⟩⟩⟩) (by decide +kernel)) gw_X9_dropped_X9_asks
theorem gw_X9_drops_X9_isRule : GoodIn W_X9_drops W_X9_isRule := fun w h => ⟨List.mem_cons_of_mem _ (List.mem_append_right _ (List.mem_append_left _ (h))), (wI_X9_isRule w h).2⟩
theorem gc_X9_drops_256_X9_isRule : GoodIn W_X9_drops (wsV RX9 256 RX9 yX9_isRule W_X9_isRule) := goodIn_app (goodIn_sub (List.forall_mem_cons.mpr ⟨List.mem_cons_of_mem _ (List.mem_append_left _ (List.mem_of_getElem? (i := 0) rfl)), List.forall_mem_cons.mpr ⟨List.mem_cons_of_mem _ (List.mem_append_left _ (List.mem_of_getElem? (i := 1) rfl)), List.forall_mem_cons.mpr ⟨List.mem_cons_of_mem _ (List.mem_append_left _ (List.mem_of_getElem? (i := 2) rfl)), List.forall_mem_cons.mpr ⟨List.mem_cons_of_mem _ (List.mem_append_left _ (List.mem_of_getElem? (i := 3) rfl)), fun _ h => absurd h List.not_mem_nil⟩⟩⟩⟩) (by decide +kernel)) gw_X9_drops_X9_isRule
theorem gw_X9_even_X9_asks : GoodIn W_X9_even W_X9_asks := fun w h => ⟨List.mem_cons_of_mem _ (List.mem_append_right _ (List.mem_append_left _ (h))), (wI_X9_asks w h).2⟩
theorem gc_X9_even_318_X9_asks : GoodIn W_X9_even (wsV RX9 318 RX9 yX9_asks W_X9_asks) := goodIn_app (goodIn_sub (List.forall_mem_cons.mpr ⟨List.mem_cons_of_mem _ (List.mem_append_left _ (List.mem_of_getElem? (i := 0) rfl)), List.forall_mem_cons.mpr ⟨List.mem_cons_of_mem _ (List.mem_append_left _ (List.mem_of_getElem? (i := 1) rfl)), List.forall_mem_cons.mpr ⟨List.mem_cons_of_mem _ (List.mem_append_left _ (List.mem_of_getElem? (i := 2) rfl)), List.forall_mem_cons.mpr ⟨List.mem_cons_of_mem _ (List.mem_append_left _ (List.mem_of_getElem? (i := 3) rfl)), fun _ h => absurd h List.not_mem_nil⟩⟩⟩⟩) (by decide +kernel)) gw_X9_even_X9_asks
theorem gw_X9_far_X9_asksSides : GoodIn W_X9_far W_X9_asksSides := fun w h => ⟨List.mem_cons_of_mem _ (List.mem_append_right _ (List.mem_append_right _ (List.mem_append_left _ (h)))), (wI_X9_asksSides w h).2⟩
theorem gc_X9_far_354_X9_asksSides : GoodIn W_X9_far (wsV RX9 354 RX9 yX9_asksSides W_X9_asksSides) := goodIn_app (goodIn_sub (List.forall_mem_cons.mpr ⟨List.mem_cons_of_mem _ (List.mem_append_left _ (List.mem_of_getElem? (i := 0) rfl)), List.forall_mem_cons.mpr ⟨List.mem_cons_of_mem _ (List.mem_append_left _ (List.mem_of_getElem? (i := 1) rfl)), List.forall_mem_cons.mpr ⟨List.mem_cons_of_mem _ (List.mem_append_left _ (List.mem_of_getElem? (i := 2) rfl)), List.forall_mem_cons.mpr ⟨List.mem_cons_of_mem _ (List.mem_append_left _ (List.mem_of_getElem? (i := 3) rfl)), fun _ h => absurd h List.not_mem_nil⟩⟩⟩⟩) (by decide +kernel)) gw_X9_far_X9_asksSides
theorem gw_X9_fewest_X9_asksLocks : GoodIn W_X9_fewest W_X9_asksLocks := fun w h => ⟨List.mem_cons_of_mem _ (List.mem_append_right _ (List.mem_append_right _ (List.mem_append_left _ (h)))), (wI_X9_asksLocks w h).2⟩
theorem gc_X9_fewest_424_X9_asksLocks : GoodIn W_X9_fewest (wsV RX9 424 RX9 yX9_asksLocks W_X9_asksLocks) := goodIn_app (goodIn_sub (List.forall_mem_cons.mpr ⟨List.mem_cons_of_mem _ (List.mem_append_left _ (List.mem_of_getElem? (i := 0) rfl)), List.forall_mem_cons.mpr ⟨List.mem_cons_of_mem _ (List.mem_append_left _ (List.mem_of_getElem? (i := 1) rfl)), List.forall_mem_cons.mpr ⟨List.mem_cons_of_mem _ (List.mem_append_left _ (List.mem_of_getElem? (i := 2) rfl)), List.forall_mem_cons.mpr ⟨List.mem_cons_of_mem _ (List.mem_append_left _ (List.mem_of_getElem? (i := 3) rfl)), fun _ h => absurd h List.not_mem_nil⟩⟩⟩⟩) (by decide +kernel)) gw_X9_fewest_X9_asksLocks
theorem gw_X9_fine_X9_asks : GoodIn W_X9_fine W_X9_asks := fun w h => ⟨List.mem_cons_of_mem _ (List.mem_append_right _ (List.mem_append_right _ (List.mem_append_left _ (h)))), (wI_X9_asks w h).2⟩
theorem gc_X9_fine_318_X9_asks : GoodIn W_X9_fine (wsV RX9 318 RX9 yX9_asks W_X9_asks) := goodIn_app (goodIn_sub (List.forall_mem_cons.mpr ⟨List.mem_cons_of_mem _ (List.mem_append_left _ (List.mem_of_getElem? (i := 0) rfl)), List.forall_mem_cons.mpr ⟨List.mem_cons_of_mem _ (List.mem_append_left _ (List.mem_of_getElem? (i := 1) rfl)), List.forall_mem_cons.mpr ⟨List.mem_cons_of_mem _ (List.mem_append_left _ (List.mem_of_getElem? (i := 2) rfl)), List.forall_mem_cons.mpr ⟨List.mem_cons_of_mem _ (List.mem_append_left _ (List.mem_of_getElem? (i := 3) rfl)), fun _ h => absurd h List.not_mem_nil⟩⟩⟩⟩) (by decide +kernel)) gw_X9_fine_X9_asks
theorem gw_X9_fits_X9_askFits : GoodIn W_X9_fits W_X9_askFits := fun w h => ⟨List.mem_cons_of_mem _ (List.mem_append_right _ (List.mem_append_right _ (h))), (wI_X9_askFits w h).2⟩
theorem gc_X9_fits_449_X9_askFits : GoodIn W_X9_fits (wsV RX9 449 RX9 yX9_askFits W_X9_askFits) := goodIn_app (goodIn_sub (List.forall_mem_cons.mpr ⟨List.mem_cons_of_mem _ (List.mem_append_left _ (List.mem_of_getElem? (i := 0) rfl)), List.forall_mem_cons.mpr ⟨List.mem_cons_of_mem _ (List.mem_append_left _ (List.mem_of_getElem? (i := 1) rfl)), List.forall_mem_cons.mpr ⟨List.mem_cons_of_mem _ (List.mem_append_left _ (List.mem_of_getElem? (i := 2) rfl)), List.forall_mem_cons.mpr ⟨List.mem_cons_of_mem _ (List.mem_append_left _ (List.mem_of_getElem? (i := 3) rfl)), fun _ h => absurd h List.not_mem_nil⟩⟩⟩⟩) (by decide +kernel)) gw_X9_fits_X9_askFits
theorem gw_X9_freely_X9_asksSides : GoodIn W_X9_freely W_X9_asksSides := fun w h => ⟨List.mem_cons_of_mem _ (List.mem_append_right _ (List.mem_append_right _ (List.mem_append_left _ (h)))), (wI_X9_asksSides w h).2⟩
theorem gc_X9_freely_354_X9_asksSides : GoodIn W_X9_freely (wsV RX9 354 RX9 yX9_asksSides W_X9_asksSides) := goodIn_app (goodIn_sub (List.forall_mem_cons.mpr ⟨List.mem_cons_of_mem _ (List.mem_append_left _ (List.mem_of_getElem? (i := 0) rfl)), List.forall_mem_cons.mpr ⟨List.mem_cons_of_mem _ (List.mem_append_left _ (List.mem_of_getElem? (i := 1) rfl)), List.forall_mem_cons.mpr ⟨List.mem_cons_of_mem _ (List.mem_append_left _ (List.mem_of_getElem? (i := 2) rfl)), List.forall_mem_cons.mpr ⟨List.mem_cons_of_mem _ (List.mem_append_left _ (List.mem_of_getElem? (i := 3) rfl)), fun _ h => absurd h List.not_mem_nil⟩⟩⟩⟩) (by decide +kernel)) gw_X9_freely_X9_asksSides
theorem gw_X9_frees_X9_isOp : GoodIn W_X9_frees W_X9_isOp := fun w h => ⟨List.mem_cons_of_mem _ (List.mem_append_right _ (List.mem_append_left _ (h))), (wI_X9_isOp w h).2⟩
theorem gc_X9_frees_267_X9_isOp : GoodIn W_X9_frees (wsV RX9 267 RX9 yX9_isOp W_X9_isOp) := goodIn_app (goodIn_sub (List.forall_mem_cons.mpr ⟨List.mem_cons_of_mem _ (List.mem_append_left _ (List.mem_of_getElem? (i := 0) rfl)), List.forall_mem_cons.mpr ⟨List.mem_cons_of_mem _ (List.mem_append_left _ (List.mem_of_getElem? (i := 1) rfl)), List.forall_mem_cons.mpr ⟨List.mem_cons_of_mem _ (List.mem_append_left _ (List.mem_of_getElem? (i := 2) rfl)), List.forall_mem_cons.mpr ⟨List.mem_cons_of_mem _ (List.mem_append_left _ (List.mem_of_getElem? (i := 3) rfl)), fun _ h => absurd h List.not_mem_nil⟩⟩⟩⟩) (by decide +kernel)) gw_X9_frees_X9_isOp
theorem gw_X9_gets_X9_areTwo : GoodIn W_X9_gets W_X9_areTwo := fun w h => ⟨List.mem_cons_of_mem _ (List.mem_append_right _ (List.mem_append_left _ (h))), (wI_X9_areTwo w h).2⟩
theorem gc_X9_gets_474_X9_areTwo : GoodIn W_X9_gets (wsV RX9 474 RX9 yX9_areTwo W_X9_areTwo) := goodIn_app (goodIn_sub (List.forall_mem_cons.mpr ⟨List.mem_cons_of_mem _ (List.mem_append_left _ (List.mem_of_getElem? (i := 0) rfl)), List.forall_mem_cons.mpr ⟨List.mem_cons_of_mem _ (List.mem_append_left _ (List.mem_of_getElem? (i := 1) rfl)), List.forall_mem_cons.mpr ⟨List.mem_cons_of_mem _ (List.mem_append_left _ (List.mem_of_getElem? (i := 2) rfl)), List.forall_mem_cons.mpr ⟨List.mem_cons_of_mem _ (List.mem_append_left _ (List.mem_of_getElem? (i := 3) rfl)), fun _ h => absurd h List.not_mem_nil⟩⟩⟩⟩) (by decide +kernel)) gw_X9_gets_X9_areTwo
theorem gw_X9_hard_X9_asks : GoodIn W_X9_hard W_X9_asks := fun w h => ⟨List.mem_cons_of_mem _ (List.mem_append_right _ (List.mem_append_left _ (h))), (wI_X9_asks w h).2⟩
theorem gc_X9_hard_318_X9_asks : GoodIn W_X9_hard (wsV RX9 318 RX9 yX9_asks W_X9_asks) := goodIn_app (goodIn_sub (List.forall_mem_cons.mpr ⟨List.mem_cons_of_mem _ (List.mem_append_left _ (List.mem_of_getElem? (i := 0) rfl)), List.forall_mem_cons.mpr ⟨List.mem_cons_of_mem _ (List.mem_append_left _ (List.mem_of_getElem? (i := 1) rfl)), List.forall_mem_cons.mpr ⟨List.mem_cons_of_mem _ (List.mem_append_left _ (List.mem_of_getElem? (i := 2) rfl)), List.forall_mem_cons.mpr ⟨List.mem_cons_of_mem _ (List.mem_append_left _ (List.mem_of_getElem? (i := 3) rfl)), fun _ h => absurd h List.not_mem_nil⟩⟩⟩⟩) (by decide +kernel)) gw_X9_hard_X9_asks
theorem gw_X9_hits_X9_asksIn : GoodIn W_X9_hits W_X9_asksIn := fun w h => ⟨List.mem_cons_of_mem _ (List.mem_append_right _ (List.mem_append_right _ (List.mem_append_left _ (h)))), (wI_X9_asksIn w h).2⟩
theorem gc_X9_hits_399_X9_asksIn : GoodIn W_X9_hits (wsV RX9 399 RX9 yX9_asksIn W_X9_asksIn) := goodIn_app (goodIn_sub (List.forall_mem_cons.mpr ⟨List.mem_cons_of_mem _ (List.mem_append_left _ (List.mem_of_getElem? (i := 0) rfl)), List.forall_mem_cons.mpr ⟨List.mem_cons_of_mem _ (List.mem_append_left _ (List.mem_of_getElem? (i := 1) rfl)), List.forall_mem_cons.mpr ⟨List.mem_cons_of_mem _ (List.mem_append_left _ (List.mem_of_getElem? (i := 2) rfl)), List.forall_mem_cons.mpr ⟨List.mem_cons_of_mem _ (List.mem_append_left _ (List.mem_of_getElem? (i := 3) rfl)), fun _ h => absurd h List.not_mem_nil⟩⟩⟩⟩) (by decide +kernel)) gw_X9_hits_X9_asksIn
theorem gw_X9_holds_X9_isState : GoodIn W_X9_holds W_X9_isState := fun w h => ⟨List.mem_cons_of_mem _ (List.mem_append_right _ (List.mem_append_left _ (h))), (wI_X9_isState w h).2⟩
theorem gc_X9_holds_314_X9_isState : GoodIn W_X9_holds (wsV RX9 314 RX9 yX9_isState W_X9_isState) := goodIn_app (goodIn_sub (List.forall_mem_cons.mpr ⟨List.mem_cons_of_mem _ (List.mem_append_left _ (List.mem_of_getElem? (i := 0) rfl)), List.forall_mem_cons.mpr ⟨List.mem_cons_of_mem _ (List.mem_append_left _ (List.mem_of_getElem? (i := 1) rfl)), List.forall_mem_cons.mpr ⟨List.mem_cons_of_mem _ (List.mem_append_left _ (List.mem_of_getElem? (i := 2) rfl)), List.forall_mem_cons.mpr ⟨List.mem_cons_of_mem _ (List.mem_append_left _ (List.mem_of_getElem? (i := 3) rfl)), fun _ h => absurd h List.not_mem_nil⟩⟩⟩⟩) (by decide +kernel)) gw_X9_holds_X9_isState
theorem gw_X9_hot_X9_asks : GoodIn W_X9_hot W_X9_asks := fun w h => ⟨List.mem_cons_of_mem _ (List.mem_append_right _ (List.mem_append_right _ (List.mem_append_left _ (h)))), (wI_X9_asks w h).2⟩
theorem gc_X9_hot_318_X9_asks : GoodIn W_X9_hot (wsV RX9 318 RX9 yX9_asks W_X9_asks) := goodIn_app (goodIn_sub (List.forall_mem_cons.mpr ⟨List.mem_cons_of_mem _ (List.mem_append_left _ (List.mem_of_getElem? (i := 0) rfl)), List.forall_mem_cons.mpr ⟨List.mem_cons_of_mem _ (List.mem_append_left _ (List.mem_of_getElem? (i := 1) rfl)), List.forall_mem_cons.mpr ⟨List.mem_cons_of_mem _ (List.mem_append_left _ (List.mem_of_getElem? (i := 2) rfl)), List.forall_mem_cons.mpr ⟨List.mem_cons_of_mem _ (List.mem_append_left _ (List.mem_of_getElem? (i := 3) rfl)), fun _ h => absurd h List.not_mem_nil⟩⟩⟩⟩) (by decide +kernel)) gw_X9_hot_X9_asks
theorem gw_X9_known_X9_isRule : GoodIn W_X9_known W_X9_isRule := fun w h => ⟨List.mem_cons_of_mem _ (List.mem_append_right _ (List.mem_append_right _ (List.mem_append_left _ (h)))), (wI_X9_isRule w h).2⟩
theorem gc_X9_known_256_X9_isRule : GoodIn W_X9_known (wsV RX9 256 RX9 yX9_isRule W_X9_isRule) := goodIn_app (goodIn_sub (List.forall_mem_cons.mpr ⟨List.mem_cons_of_mem _ (List.mem_append_left _ (List.mem_of_getElem? (i := 0) rfl)), List.forall_mem_cons.mpr ⟨List.mem_cons_of_mem _ (List.mem_append_left _ (List.mem_of_getElem? (i := 1) rfl)), List.forall_mem_cons.mpr ⟨List.mem_cons_of_mem _ (List.mem_append_left _ (List.mem_of_getElem? (i := 2) rfl)), List.forall_mem_cons.mpr ⟨List.mem_cons_of_mem _ (List.mem_append_left _ (List.mem_of_getElem? (i := 3) rfl)), fun _ h => absurd h List.not_mem_nil⟩⟩⟩⟩) (by decide +kernel)) gw_X9_known_X9_isRule
theorem gw_X9_law_X9_asks : GoodIn W_X9_law W_X9_asks := fun w h => ⟨List.mem_cons_of_mem _ (List.mem_append_right _ (List.mem_append_left _ (h))), (wI_X9_asks w h).2⟩
theorem gc_X9_law_318_X9_asks : GoodIn W_X9_law (wsV RX9 318 RX9 yX9_asks W_X9_asks) := goodIn_app (goodIn_sub (List.forall_mem_cons.mpr ⟨List.mem_cons_of_mem _ (List.mem_append_left _ (List.mem_of_getElem? (i := 0) rfl)), List.forall_mem_cons.mpr ⟨List.mem_cons_of_mem _ (List.mem_append_left _ (List.mem_of_getElem? (i := 1) rfl)), List.forall_mem_cons.mpr ⟨List.mem_cons_of_mem _ (List.mem_append_left _ (List.mem_of_getElem? (i := 2) rfl)), List.forall_mem_cons.mpr ⟨List.mem_cons_of_mem _ (List.mem_append_left _ (List.mem_of_getElem? (i := 3) rfl)), fun _ h => absurd h List.not_mem_nil⟩⟩⟩⟩) (by decide +kernel)) gw_X9_law_X9_asks
theorem gw_X9_laws_X9_askSeen : GoodIn W_X9_laws W_X9_askSeen := fun w h => ⟨List.mem_cons_of_mem _ (List.mem_append_right _ (List.mem_append_right _ (List.mem_append_left _ (h)))), (wI_X9_askSeen w h).2⟩
theorem gc_X9_laws_443_X9_askSeen : GoodIn W_X9_laws (wsV RX9 443 RX9 yX9_askSeen W_X9_askSeen) := goodIn_app (goodIn_sub (List.forall_mem_cons.mpr ⟨List.mem_cons_of_mem _ (List.mem_append_left _ (List.mem_of_getElem? (i := 0) rfl)), List.forall_mem_cons.mpr ⟨List.mem_cons_of_mem _ (List.mem_append_left _ (List.mem_of_getElem? (i := 1) rfl)), List.forall_mem_cons.mpr ⟨List.mem_cons_of_mem _ (List.mem_append_left _ (List.mem_of_getElem? (i := 2) rfl)), List.forall_mem_cons.mpr ⟨List.mem_cons_of_mem _ (List.mem_append_left _ (List.mem_of_getElem? (i := 3) rfl)), fun _ h => absurd h List.not_mem_nil⟩⟩⟩⟩) (by decide +kernel)) gw_X9_laws_X9_askSeen
theorem gw_X9_least_X9_asksIn : GoodIn W_X9_least W_X9_asksIn := fun w h => ⟨List.mem_cons_of_mem _ (List.mem_append_right _ (List.mem_append_right _ (List.mem_append_left _ (h)))), (wI_X9_asksIn w h).2⟩
theorem gc_X9_least_399_X9_asksIn : GoodIn W_X9_least (wsV RX9 399 RX9 yX9_asksIn W_X9_asksIn) := goodIn_app (goodIn_sub (List.forall_mem_cons.mpr ⟨List.mem_cons_of_mem _ (List.mem_append_left _ (List.mem_of_getElem? (i := 0) rfl)), List.forall_mem_cons.mpr ⟨List.mem_cons_of_mem _ (List.mem_append_left _ (List.mem_of_getElem? (i := 1) rfl)), List.forall_mem_cons.mpr ⟨List.mem_cons_of_mem _ (List.mem_append_left _ (List.mem_of_getElem? (i := 2) rfl)), List.forall_mem_cons.mpr ⟨List.mem_cons_of_mem _ (List.mem_append_left _ (List.mem_of_getElem? (i := 3) rfl)), fun _ h => absurd h List.not_mem_nil⟩⟩⟩⟩) (by decide +kernel)) gw_X9_least_X9_asksIn
theorem gw_X9_lock_X9_isOp : GoodIn W_X9_lock W_X9_isOp := fun w h => ⟨List.mem_cons_of_mem _ (List.mem_append_right _ (List.mem_append_left _ (h))), (wI_X9_isOp w h).2⟩
theorem gc_X9_lock_267_X9_isOp : GoodIn W_X9_lock (wsV RX9 267 RX9 yX9_isOp W_X9_isOp) := goodIn_app (goodIn_sub (List.forall_mem_cons.mpr ⟨List.mem_cons_of_mem _ (List.mem_append_left _ (List.mem_of_getElem? (i := 0) rfl)), List.forall_mem_cons.mpr ⟨List.mem_cons_of_mem _ (List.mem_append_left _ (List.mem_of_getElem? (i := 1) rfl)), List.forall_mem_cons.mpr ⟨List.mem_cons_of_mem _ (List.mem_append_left _ (List.mem_of_getElem? (i := 2) rfl)), List.forall_mem_cons.mpr ⟨List.mem_cons_of_mem _ (List.mem_append_left _ (List.mem_of_getElem? (i := 3) rfl)), fun _ h => absurd h List.not_mem_nil⟩⟩⟩⟩) (by decide +kernel)) gw_X9_lock_X9_isOp
theorem gw_X9_locked_X9_asks : GoodIn W_X9_locked W_X9_asks := fun w h => ⟨List.mem_cons_of_mem _ (List.mem_append_right _ (List.mem_append_right _ (h))), (wI_X9_asks w h).2⟩
theorem gc_X9_locked_318_X9_asks : GoodIn W_X9_locked (wsV RX9 318 RX9 yX9_asks W_X9_asks) := goodIn_app (goodIn_sub (List.forall_mem_cons.mpr ⟨List.mem_cons_of_mem _ (List.mem_append_left _ (List.mem_of_getElem? (i := 0) rfl)), List.forall_mem_cons.mpr ⟨List.mem_cons_of_mem _ (List.mem_append_left _ (List.mem_of_getElem? (i := 1) rfl)), List.forall_mem_cons.mpr ⟨List.mem_cons_of_mem _ (List.mem_append_left _ (List.mem_of_getElem? (i := 2) rfl)), List.forall_mem_cons.mpr ⟨List.mem_cons_of_mem _ (List.mem_append_left _ (List.mem_of_getElem? (i := 3) rfl)), fun _ h => absurd h List.not_mem_nil⟩⟩⟩⟩) (by decide +kernel)) gw_X9_locked_X9_asks
theorem gw_X9_locks_X9_asksLocks : GoodIn W_X9_locks W_X9_asksLocks := fun w h => ⟨List.mem_cons_of_mem _ (List.mem_append_right _ (List.mem_append_right _ (h))), (wI_X9_asksLocks w h).2⟩
theorem gc_X9_locks_424_X9_asksLocks : GoodIn W_X9_locks (wsV RX9 424 RX9 yX9_asksLocks W_X9_asksLocks) := goodIn_app (goodIn_sub (List.forall_mem_cons.mpr ⟨List.mem_cons_of_mem _ (List.mem_append_left _ (List.mem_of_getElem? (i := 0) rfl)), List.forall_mem_cons.mpr ⟨List.mem_cons_of_mem _ (List.mem_append_left _ (List.mem_of_getElem? (i := 1) rfl)), List.forall_mem_cons.mpr ⟨List.mem_cons_of_mem _ (List.mem_append_left _ (List.mem_of_getElem? (i := 2) rfl)), List.forall_mem_cons.mpr ⟨List.mem_cons_of_mem _ (List.mem_append_left _ (List.mem_of_getElem? (i := 3) rfl)), fun _ h => absurd h List.not_mem_nil⟩⟩⟩⟩) (by decide +kernel)) gw_X9_locks_X9_asksLocks
theorem gw_X9_luck_X9_isBase : GoodIn W_X9_luck W_X9_isBase := fun w h => ⟨List.mem_cons_of_mem _ (List.mem_append_right _ (List.mem_append_left _ (h))), (wI_X9_isBase w h).2⟩
theorem gc_X9_luck_92_X9_isBase : GoodIn W_X9_luck (wsV RX9 92 RX9 yX9_isBase W_X9_isBase) := goodIn_app (goodIn_sub (List.forall_mem_cons.mpr ⟨List.mem_cons_of_mem _ (List.mem_append_left _ (List.mem_of_getElem? (i := 0) rfl)), List.forall_mem_cons.mpr ⟨List.mem_cons_of_mem _ (List.mem_append_left _ (List.mem_of_getElem? (i := 1) rfl)), List.forall_mem_cons.mpr ⟨List.mem_cons_of_mem _ (List.mem_append_left _ (List.mem_of_getElem? (i := 2) rfl)), List.forall_mem_cons.mpr ⟨List.mem_cons_of_mem _ (List.mem_append_left _ (List.mem_of_getElem? (i := 3) rfl)), fun _ h => absurd h List.not_mem_nil⟩⟩⟩⟩) (by decide +kernel)) gw_X9_luck_X9_isBase
theorem gw_X9_mean_X9_asksChance : GoodIn W_X9_mean W_X9_asksChance := fun w h => ⟨List.mem_cons_of_mem _ (List.mem_append_right _ (List.mem_append_right _ (List.mem_append_left _ (h)))), (wI_X9_asksChance w h).2⟩
theorem gc_X9_mean_494_X9_asksChance : GoodIn W_X9_mean (wsV RX9 494 RX9 yX9_asksChance W_X9_asksChance) := goodIn_app (goodIn_sub (List.forall_mem_cons.mpr ⟨List.mem_cons_of_mem _ (List.mem_append_left _ (List.mem_of_getElem? (i := 0) rfl)), List.forall_mem_cons.mpr ⟨List.mem_cons_of_mem _ (List.mem_append_left _ (List.mem_of_getElem? (i := 1) rfl)), List.forall_mem_cons.mpr ⟨List.mem_cons_of_mem _ (List.mem_append_left _ (List.mem_of_getElem? (i := 2) rfl)), List.forall_mem_cons.mpr ⟨List.mem_cons_of_mem _ (List.mem_append_left _ (List.mem_of_getElem? (i := 3) rfl)), fun _ h => absurd h List.not_mem_nil⟩⟩⟩⟩) (by decide +kernel)) gw_X9_mean_X9_asksChance
theorem gw_X9_merge_X9_asks : GoodIn W_X9_merge W_X9_asks := fun w h => ⟨List.mem_cons_of_mem _ (List.mem_append_right _ (List.mem_append_left _ (h))), (wI_X9_asks w h).2⟩
theorem gc_X9_merge_318_X9_asks : GoodIn W_X9_merge (wsV RX9 318 RX9 yX9_asks W_X9_asks) := goodIn_app (goodIn_sub (List.forall_mem_cons.mpr ⟨List.mem_cons_of_mem _ (List.mem_append_left _ (List.mem_of_getElem? (i := 0) rfl)), List.forall_mem_cons.mpr ⟨List.mem_cons_of_mem _ (List.mem_append_left _ (List.mem_of_getElem? (i := 1) rfl)), List.forall_mem_cons.mpr ⟨List.mem_cons_of_mem _ (List.mem_append_left _ (List.mem_of_getElem? (i := 2) rfl)), List.forall_mem_cons.mpr ⟨List.mem_cons_of_mem _ (List.mem_append_left _ (List.mem_of_getElem? (i := 3) rfl)), fun _ h => absurd h List.not_mem_nil⟩⟩⟩⟩) (by decide +kernel)) gw_X9_merge_X9_asks
theorem gw_X9_nearest_X9_asks : GoodIn W_X9_nearest W_X9_asks := fun w h => ⟨List.mem_cons_of_mem _ (List.mem_append_right _ (List.mem_append_right _ (List.mem_append_left _ (h)))), (wI_X9_asks w h).2⟩
theorem gc_X9_nearest_318_X9_asks : GoodIn W_X9_nearest (wsV RX9 318 RX9 yX9_asks W_X9_asks) := goodIn_app (goodIn_sub (List.forall_mem_cons.mpr ⟨List.mem_cons_of_mem _ (List.mem_append_left _ (List.mem_of_getElem? (i := 0) rfl)), List.forall_mem_cons.mpr ⟨List.mem_cons_of_mem _ (List.mem_append_left _ (List.mem_of_getElem? (i := 1) rfl)), List.forall_mem_cons.mpr ⟨List.mem_cons_of_mem _ (List.mem_append_left _ (List.mem_of_getElem? (i := 2) rfl)), List.forall_mem_cons.mpr ⟨List.mem_cons_of_mem _ (List.mem_append_left _ (List.mem_of_getElem? (i := 3) rfl)), fun _ h => absurd h List.not_mem_nil⟩⟩⟩⟩) (by decide +kernel)) gw_X9_nearest_X9_asks
theorem gw_X9_needed_X9_asksLocks : GoodIn W_X9_needed W_X9_asksLocks := fun w h => ⟨List.mem_cons_of_mem _ (List.mem_append_right _ (List.mem_append_right _ (h))), (wI_X9_asksLocks w h).2⟩
theorem gc_X9_needed_424_X9_asksLocks : GoodIn W_X9_needed (wsV RX9 424 RX9 yX9_asksLocks W_X9_asksLocks) := goodIn_app (goodIn_sub (List.forall_mem_cons.mpr ⟨List.mem_cons_of_mem _ (List.mem_append_left _ (List.mem_of_getElem? (i := 0) rfl)), List.forall_mem_cons.mpr ⟨List.mem_cons_of_mem _ (List.mem_append_left _ (List.mem_of_getElem? (i := 1) rfl)), List.forall_mem_cons.mpr ⟨List.mem_cons_of_mem _ (List.mem_append_left _ (List.mem_of_getElem? (i := 2) rfl)), List.forall_mem_cons.mpr ⟨List.mem_cons_of_mem _ (List.mem_append_left _ (List.mem_of_getElem? (i := 3) rfl)), fun _ h => absurd h List.not_mem_nil⟩⟩⟩⟩) (by decide +kernel)) gw_X9_needed_X9_asksLocks
theorem gw_X9_op_X9_isOp : GoodIn W_X9_op W_X9_isOp := fun w h => ⟨List.mem_cons_of_mem _ (List.mem_append_right _ (List.mem_append_left _ (h))), (wI_X9_isOp w h).2⟩
theorem gc_X9_op_267_X9_isOp : GoodIn W_X9_op (wsV RX9 267 RX9 yX9_isOp W_X9_isOp) := goodIn_app (goodIn_sub (List.forall_mem_cons.mpr ⟨List.mem_cons_of_mem _ (List.mem_append_left _ (List.mem_of_getElem? (i := 0) rfl)), List.forall_mem_cons.mpr ⟨List.mem_cons_of_mem _ (List.mem_append_left _ (List.mem_of_getElem? (i := 1) rfl)), List.forall_mem_cons.mpr ⟨List.mem_cons_of_mem _ (List.mem_append_left _ (List.mem_of_getElem? (i := 2) rfl)), List.forall_mem_cons.mpr ⟨List.mem_cons_of_mem _ (List.mem_append_left _ (List.mem_of_getElem? (i := 3) rfl)), fun _ h => absurd h List.not_mem_nil⟩⟩⟩⟩) (by decide +kernel)) gw_X9_op_X9_isOp
theorem gw_X9_opens_X9_asks : GoodIn W_X9_opens W_X9_asks := fun w h => ⟨List.mem_cons_of_mem _ (List.mem_append_right _ (List.mem_append_left _ (h))), (wI_X9_asks w h).2⟩
theorem gc_X9_opens_318_X9_asks : GoodIn W_X9_opens (wsV RX9 318 RX9 yX9_asks W_X9_asks) := goodIn_app (goodIn_sub (List.forall_mem_cons.mpr ⟨List.mem_cons_of_mem _ (List.mem_append_left _ (List.mem_of_getElem? (i := 0) rfl)), List.forall_mem_cons.mpr ⟨List.mem_cons_of_mem _ (List.mem_append_left _ (List.mem_of_getElem? (i := 1) rfl)), List.forall_mem_cons.mpr ⟨List.mem_cons_of_mem _ (List.mem_append_left _ (List.mem_of_getElem? (i := 2) rfl)), List.forall_mem_cons.mpr ⟨List.mem_cons_of_mem _ (List.mem_append_left _ (List.mem_of_getElem? (i := 3) rfl)), fun _ h => absurd h List.not_mem_nil⟩⟩⟩⟩) (by decide +kernel)) gw_X9_opens_X9_asks
theorem gw_X9_pairs_X9_asksIn : GoodIn W_X9_pairs W_X9_asksIn := fun w h => ⟨List.mem_cons_of_mem _ (List.mem_append_right _ (List.mem_append_right _ (h))), (wI_X9_asksIn w h).2⟩
theorem gc_X9_pairs_399_X9_asksIn : GoodIn W_X9_pairs (wsV RX9 399 RX9 yX9_asksIn W_X9_asksIn) := goodIn_app (goodIn_sub (List.forall_mem_cons.mpr ⟨List.mem_cons_of_mem _ (List.mem_append_left _ (List.mem_of_getElem? (i := 0) rfl)), List.forall_mem_cons.mpr ⟨List.mem_cons_of_mem _ (List.mem_append_left _ (List.mem_of_getElem? (i := 1) rfl)), List.forall_mem_cons.mpr ⟨List.mem_cons_of_mem _ (List.mem_append_left _ (List.mem_of_getElem? (i := 2) rfl)), List.forall_mem_cons.mpr ⟨List.mem_cons_of_mem _ (List.mem_append_left _ (List.mem_of_getElem? (i := 3) rfl)), fun _ h => absurd h List.not_mem_nil⟩⟩⟩⟩) (by decide +kernel)) gw_X9_pairs_X9_asksIn
theorem gw_X9_rate_X9_isCell : GoodIn W_X9_rate W_X9_isCell := fun w h => ⟨List.mem_cons_of_mem _ (List.mem_append_right _ (List.mem_append_right _ (List.mem_append_left _ (h)))), (wI_X9_isCell w h).2⟩
theorem gc_X9_rate_252_X9_isCell : GoodIn W_X9_rate (wsV RX9 252 RX9 yX9_isCell W_X9_isCell) := goodIn_app (goodIn_sub (List.forall_mem_cons.mpr ⟨List.mem_cons_of_mem _ (List.mem_append_left _ (List.mem_of_getElem? (i := 0) rfl)), List.forall_mem_cons.mpr ⟨List.mem_cons_of_mem _ (List.mem_append_left _ (List.mem_of_getElem? (i := 1) rfl)), List.forall_mem_cons.mpr ⟨List.mem_cons_of_mem _ (List.mem_append_left _ (List.mem_of_getElem? (i := 2) rfl)), List.forall_mem_cons.mpr ⟨List.mem_cons_of_mem _ (List.mem_append_left _ (List.mem_of_getElem? (i := 3) rfl)), fun _ h => absurd h List.not_mem_nil⟩⟩⟩⟩) (by decide +kernel)) gw_X9_rate_X9_isCell
theorem gw_X9_reach_X9_asksSides : GoodIn W_X9_reach W_X9_asksSides := fun w h => ⟨List.mem_cons_of_mem _ (List.mem_append_right _ (List.mem_append_right _ (List.mem_append_left _ (h)))), (wI_X9_asksSides w h).2⟩
theorem gc_X9_reach_354_X9_asksSides : GoodIn W_X9_reach (wsV RX9 354 RX9 yX9_asksSides W_X9_asksSides) := goodIn_app (goodIn_sub (List.forall_mem_cons.mpr ⟨List.mem_cons_of_mem _ (List.mem_append_left _ (List.mem_of_getElem? (i := 0) rfl)), List.forall_mem_cons.mpr ⟨List.mem_cons_of_mem _ (List.mem_append_left _ (List.mem_of_getElem? (i := 1) rfl)), List.forall_mem_cons.mpr ⟨List.mem_cons_of_mem _ (List.mem_append_left _ (List.mem_of_getElem? (i := 2) rfl)), List.forall_mem_cons.mpr ⟨List.mem_cons_of_mem _ (List.mem_append_left _ (List.mem_of_getElem? (i := 3) rfl)), fun _ h => absurd h List.not_mem_nil⟩⟩⟩⟩) (by decide +kernel)) gw_X9_reach_X9_asksSides
theorem gw_X9_rests_X9_areTwo : GoodIn W_X9_rests W_X9_areTwo := fun w h => ⟨List.mem_cons_of_mem _ (List.mem_append_right _ (List.mem_append_left _ (h))), (wI_X9_areTwo w h).2⟩
theorem gc_X9_rests_474_X9_areTwo : GoodIn W_X9_rests (wsV RX9 474 RX9 yX9_areTwo W_X9_areTwo) := goodIn_app (goodIn_sub (List.forall_mem_cons.mpr ⟨List.mem_cons_of_mem _ (List.mem_append_left _ (List.mem_of_getElem? (i := 0) rfl)), List.forall_mem_cons.mpr ⟨List.mem_cons_of_mem _ (List.mem_append_left _ (List.mem_of_getElem? (i := 1) rfl)), List.forall_mem_cons.mpr ⟨List.mem_cons_of_mem _ (List.mem_append_left _ (List.mem_of_getElem? (i := 2) rfl)), List.forall_mem_cons.mpr ⟨List.mem_cons_of_mem _ (List.mem_append_left _ (List.mem_of_getElem? (i := 3) rfl)), fun _ h => absurd h List.not_mem_nil⟩⟩⟩⟩) (by decide +kernel)) gw_X9_rests_X9_areTwo
theorem gw_X9_room_X9_asks : GoodIn W_X9_room W_X9_asks := fun w h => ⟨List.mem_cons_of_mem _ (List.mem_append_right _ (List.mem_append_right _ (List.mem_append_left _ (h)))), (wI_X9_asks w h).2⟩
theorem gc_X9_room_318_X9_asks : GoodIn W_X9_room (wsV RX9 318 RX9 yX9_asks W_X9_asks) := goodIn_app (goodIn_sub (List.forall_mem_cons.mpr ⟨List.mem_cons_of_mem _ (List.mem_append_left _ (List.mem_of_getElem? (i := 0) rfl)), List.forall_mem_cons.mpr ⟨List.mem_cons_of_mem _ (List.mem_append_left _ (List.mem_of_getElem? (i := 1) rfl)), List.forall_mem_cons.mpr ⟨List.mem_cons_of_mem _ (List.mem_append_left _ (List.mem_of_getElem? (i := 2) rfl)), List.forall_mem_cons.mpr ⟨List.mem_cons_of_mem _ (List.mem_append_left _ (List.mem_of_getElem? (i := 3) rfl)), fun _ h => absurd h List.not_mem_nil⟩⟩⟩⟩) (by decide +kernel)) gw_X9_room_X9_asks
theorem gw_X9_rule_X9_isRule : GoodIn W_X9_rule W_X9_isRule := fun w h => ⟨List.mem_cons_of_mem _ (List.mem_append_right _ (List.mem_append_left _ (h))), (wI_X9_isRule w h).2⟩
theorem gc_X9_rule_256_X9_isRule : GoodIn W_X9_rule (wsV RX9 256 RX9 yX9_isRule W_X9_isRule) := goodIn_app (goodIn_sub (List.forall_mem_cons.mpr ⟨List.mem_cons_of_mem _ (List.mem_append_left _ (List.mem_of_getElem? (i := 0) rfl)), List.forall_mem_cons.mpr ⟨List.mem_cons_of_mem _ (List.mem_append_left _ (List.mem_of_getElem? (i := 1) rfl)), List.forall_mem_cons.mpr ⟨List.mem_cons_of_mem _ (List.mem_append_left _ (List.mem_of_getElem? (i := 2) rfl)), List.forall_mem_cons.mpr ⟨List.mem_cons_of_mem _ (List.mem_append_left _ (List.mem_of_getElem? (i := 3) rfl)), fun _ h => absurd h List.not_mem_nil⟩⟩⟩⟩) (by decide +kernel)) gw_X9_rule_X9_isRule
theorem gw_X9_safe_X9_asksIn : GoodIn W_X9_safe W_X9_asksIn := fun w h => ⟨List.mem_cons_of_mem _ (List.mem_append_right _ (List.mem_append_right _ (h))), (wI_X9_asksIn w h).2⟩
theorem gc_X9_safe_399_X9_asksIn : GoodIn W_X9_safe (wsV RX9 399 RX9 yX9_asksIn W_X9_asksIn) := goodIn_app (goodIn_sub (List.forall_mem_cons.mpr ⟨List.mem_cons_of_mem _ (List.mem_append_left _ (List.mem_of_getElem? (i := 0) rfl)), List.forall_mem_cons.mpr ⟨List.mem_cons_of_mem _ (List.mem_append_left _ (List.mem_of_getElem? (i := 1) rfl)), List.forall_mem_cons.mpr ⟨List.mem_cons_of_mem _ (List.mem_append_left _ (List.mem_of_getElem? (i := 2) rfl)), List.forall_mem_cons.mpr ⟨List.mem_cons_of_mem _ (List.mem_append_left _ (List.mem_of_getElem? (i := 3) rfl)), fun _ h => absurd h List.not_mem_nil⟩⟩⟩⟩) (by decide +kernel)) gw_X9_safe_X9_asksIn
theorem gw_X9_share_X9_isRule : GoodIn W_X9_share W_X9_isRule := fun w h => ⟨List.mem_cons_of_mem _ (List.mem_append_right _ (List.mem_append_right _ (List.mem_append_left _ (h)))), (wI_X9_isRule w h).2⟩
theorem gc_X9_share_256_X9_isRule : GoodIn W_X9_share (wsV RX9 256 RX9 yX9_isRule W_X9_isRule) := goodIn_app (goodIn_sub (List.forall_mem_cons.mpr ⟨List.mem_cons_of_mem _ (List.mem_append_left _ (List.mem_of_getElem? (i := 0) rfl)), List.forall_mem_cons.mpr ⟨List.mem_cons_of_mem _ (List.mem_append_left _ (List.mem_of_getElem? (i := 1) rfl)), List.forall_mem_cons.mpr ⟨List.mem_cons_of_mem _ (List.mem_append_left _ (List.mem_of_getElem? (i := 2) rfl)), List.forall_mem_cons.mpr ⟨List.mem_cons_of_mem _ (List.mem_append_left _ (List.mem_of_getElem? (i := 3) rfl)), fun _ h => absurd h List.not_mem_nil⟩⟩⟩⟩) (by decide +kernel)) gw_X9_share_X9_isRule
theorem gw_X9_spare_X9_asks : GoodIn W_X9_spare W_X9_asks := fun w h => ⟨List.mem_cons_of_mem _ (List.mem_append_right _ (List.mem_append_right _ (List.mem_append_left _ (h)))), (wI_X9_asks w h).2⟩
theorem gc_X9_spare_318_X9_asks : GoodIn W_X9_spare (wsV RX9 318 RX9 yX9_asks W_X9_asks) := goodIn_app (goodIn_sub (List.forall_mem_cons.mpr ⟨List.mem_cons_of_mem _ (List.mem_append_left _ (List.mem_of_getElem? (i := 0) rfl)), List.forall_mem_cons.mpr ⟨List.mem_cons_of_mem _ (List.mem_append_left _ (List.mem_of_getElem? (i := 1) rfl)), List.forall_mem_cons.mpr ⟨List.mem_cons_of_mem _ (List.mem_append_left _ (List.mem_of_getElem? (i := 2) rfl)), List.forall_mem_cons.mpr ⟨List.mem_cons_of_mem _ (List.mem_append_left _ (List.mem_of_getElem? (i := 3) rfl)), fun _ h => absurd h List.not_mem_nil⟩⟩⟩⟩) (by decide +kernel)) gw_X9_spare_X9_asks
theorem gw_X9_states_X9_isBase : GoodIn W_X9_states W_X9_isBase := fun w h => ⟨List.mem_cons_of_mem _ (List.mem_append_right _ (List.mem_append_left _ (h))), (wI_X9_isBase w h).2⟩
theorem gc_X9_states_92_X9_isBase : GoodIn W_X9_states (wsV RX9 92 RX9 yX9_isBase W_X9_isBase) := goodIn_app (goodIn_sub (List.forall_mem_cons.mpr ⟨List.mem_cons_of_mem _ (List.mem_append_left _ (List.mem_of_getElem? (i := 0) rfl)), List.forall_mem_cons.mpr ⟨List.mem_cons_of_mem _ (List.mem_append_left _ (List.mem_of_getElem? (i := 1) rfl)), List.forall_mem_cons.mpr ⟨List.mem_cons_of_mem _ (List.mem_append_left _ (List.mem_of_getElem? (i := 2) rfl)), List.forall_mem_cons.mpr ⟨List.mem_cons_of_mem _ (List.mem_append_left _ (List.mem_of_getElem? (i := 3) rfl)), fun _ h => absurd h List.not_mem_nil⟩⟩⟩⟩) (by decide +kernel)) gw_X9_states_X9_isBase
theorem gw_X9_step_X9_asksSides : GoodIn W_X9_step W_X9_asksSides := fun w h => ⟨List.mem_cons_of_mem _ (List.mem_append_right _ (List.mem_append_right _ (List.mem_append_left _ (h)))), (wI_X9_asksSides w h).2⟩
theorem gc_X9_step_354_X9_asksSides : GoodIn W_X9_step (wsV RX9 354 RX9 yX9_asksSides W_X9_asksSides) := goodIn_app (goodIn_sub (List.forall_mem_cons.mpr ⟨List.mem_cons_of_mem _ (List.mem_append_left _ (List.mem_of_getElem? (i := 0) rfl)), List.forall_mem_cons.mpr ⟨List.mem_cons_of_mem _ (List.mem_append_left _ (List.mem_of_getElem? (i := 1) rfl)), List.forall_mem_cons.mpr ⟨List.mem_cons_of_mem _ (List.mem_append_left _ (List.mem_of_getElem? (i := 2) rfl)), List.forall_mem_cons.mpr ⟨List.mem_cons_of_mem _ (List.mem_append_left _ (List.mem_of_getElem? (i := 3) rfl)), fun _ h => absurd h List.not_mem_nil⟩⟩⟩⟩) (by decide +kernel)) gw_X9_step_X9_asksSides
theorem gw_X9_table_X9_asks : GoodIn W_X9_table W_X9_asks := fun w h => ⟨List.mem_cons_of_mem _ (List.mem_append_right _ (List.mem_append_left _ (h))), (wI_X9_asks w h).2⟩
theorem gc_X9_table_318_X9_asks : GoodIn W_X9_table (wsV RX9 318 RX9 yX9_asks W_X9_asks) := goodIn_app (goodIn_sub (List.forall_mem_cons.mpr ⟨List.mem_cons_of_mem _ (List.mem_append_left _ (List.mem_of_getElem? (i := 0) rfl)), List.forall_mem_cons.mpr ⟨List.mem_cons_of_mem _ (List.mem_append_left _ (List.mem_of_getElem? (i := 1) rfl)), List.forall_mem_cons.mpr ⟨List.mem_cons_of_mem _ (List.mem_append_left _ (List.mem_of_getElem? (i := 2) rfl)), List.forall_mem_cons.mpr ⟨List.mem_cons_of_mem _ (List.mem_append_left _ (List.mem_of_getElem? (i := 3) rfl)), fun _ h => absurd h List.not_mem_nil⟩⟩⟩⟩) (by decide +kernel)) gw_X9_table_X9_asks
theorem gw_X9_undo_X9_isBase : GoodIn W_X9_undo W_X9_isBase := fun w h => ⟨List.mem_cons_of_mem _ (List.mem_append_right _ (List.mem_append_right _ (h))), (wI_X9_isBase w h).2⟩
theorem gc_X9_undo_92_X9_isBase : GoodIn W_X9_undo (wsV RX9 92 RX9 yX9_isBase W_X9_isBase) := goodIn_app (goodIn_sub (List.forall_mem_cons.mpr ⟨List.mem_cons_of_mem _ (List.mem_append_left _ (List.mem_of_getElem? (i := 0) rfl)), List.forall_mem_cons.mpr ⟨List.mem_cons_of_mem _ (List.mem_append_left _ (List.mem_of_getElem? (i := 1) rfl)), List.forall_mem_cons.mpr ⟨List.mem_cons_of_mem _ (List.mem_append_left _ (List.mem_of_getElem? (i := 2) rfl)), List.forall_mem_cons.mpr ⟨List.mem_cons_of_mem _ (List.mem_append_left _ (List.mem_of_getElem? (i := 3) rfl)), fun _ h => absurd h List.not_mem_nil⟩⟩⟩⟩) (by decide +kernel)) gw_X9_undo_X9_isBase
theorem gw_X9_valid_X9_asks : GoodIn W_X9_valid W_X9_asks := fun w h => ⟨List.mem_cons_of_mem _ (List.mem_append_right _ (List.mem_append_right _ (List.mem_append_left _ (h)))), (wI_X9_asks w h).2⟩
theorem gc_X9_valid_318_X9_asks : GoodIn W_X9_valid (wsV RX9 318 RX9 yX9_asks W_X9_asks) := goodIn_app (goodIn_sub (List.forall_mem_cons.mpr ⟨List.mem_cons_of_mem _ (List.mem_append_left _ (List.mem_of_getElem? (i := 0) rfl)), List.forall_mem_cons.mpr ⟨List.mem_cons_of_mem _ (List.mem_append_left _ (List.mem_of_getElem? (i := 1) rfl)), List.forall_mem_cons.mpr ⟨List.mem_cons_of_mem _ (List.mem_append_left _ (List.mem_of_getElem? (i := 2) rfl)), List.forall_mem_cons.mpr ⟨List.mem_cons_of_mem _ (List.mem_append_left _ (List.mem_of_getElem? (i := 3) rfl)), fun _ h => absurd h List.not_mem_nil⟩⟩⟩⟩) (by decide +kernel)) gw_X9_valid_X9_asks
theorem gw_X9_valids_X9_asks : GoodIn W_X9_valids W_X9_asks := fun w h => ⟨List.mem_cons_of_mem _ (List.mem_append_right _ (List.mem_append_left _ (h))), (wI_X9_asks w h).2⟩
theorem gc_X9_valids_318_X9_asks : GoodIn W_X9_valids (wsV RX9 318 RX9 yX9_asks W_X9_asks) := goodIn_app (goodIn_sub (List.forall_mem_cons.mpr ⟨List.mem_cons_of_mem _ (List.mem_append_left _ (List.mem_of_getElem? (i := 0) rfl)), List.forall_mem_cons.mpr ⟨List.mem_cons_of_mem _ (List.mem_append_left _ (List.mem_of_getElem? (i := 1) rfl)), List.forall_mem_cons.mpr ⟨List.mem_cons_of_mem _ (List.mem_append_left _ (List.mem_of_getElem? (i := 2) rfl)), List.forall_mem_cons.mpr ⟨List.mem_cons_of_mem _ (List.mem_append_left _ (List.mem_of_getElem? (i := 3) rfl)), fun _ h => absurd h List.not_mem_nil⟩⟩⟩⟩) (by decide +kernel)) gw_X9_valids_X9_asks
theorem gw_X9_value_X9_isState : GoodIn W_X9_value W_X9_isState := fun w h => ⟨List.mem_cons_of_mem _ (List.mem_append_right _ (List.mem_append_left _ (h))), (wI_X9_isState w h).2⟩
theorem gc_X9_value_314_X9_isState : GoodIn W_X9_value (wsV RX9 314 RX9 yX9_isState W_X9_isState) := goodIn_app (goodIn_sub (List.forall_mem_cons.mpr ⟨List.mem_cons_of_mem _ (List.mem_append_left _ (List.mem_of_getElem? (i := 0) rfl)), List.forall_mem_cons.mpr ⟨List.mem_cons_of_mem _ (List.mem_append_left _ (List.mem_of_getElem? (i := 1) rfl)), List.forall_mem_cons.mpr ⟨List.mem_cons_of_mem _ (List.mem_append_left _ (List.mem_of_getElem? (i := 2) rfl)), List.forall_mem_cons.mpr ⟨List.mem_cons_of_mem _ (List.mem_append_left _ (List.mem_of_getElem? (i := 3) rfl)), fun _ h => absurd h List.not_mem_nil⟩⟩⟩⟩) (by decide +kernel)) gw_X9_value_X9_isState
theorem gw_X9_weight_X9_isState : GoodIn W_X9_weight W_X9_isState := fun w h => ⟨List.mem_cons_of_mem _ (List.mem_append_right _ (List.mem_append_left _ (h))), (wI_X9_isState w h).2⟩
theorem gc_X9_weight_314_X9_isState : GoodIn W_X9_weight (wsV RX9 314 RX9 yX9_isState W_X9_isState) := goodIn_app (goodIn_sub (List.forall_mem_cons.mpr ⟨List.mem_cons_of_mem _ (List.mem_append_left _ (List.mem_of_getElem? (i := 0) rfl)), List.forall_mem_cons.mpr ⟨List.mem_cons_of_mem _ (List.mem_append_left _ (List.mem_of_getElem? (i := 1) rfl)), List.forall_mem_cons.mpr ⟨List.mem_cons_of_mem _ (List.mem_append_left _ (List.mem_of_getElem? (i := 2) rfl)), List.forall_mem_cons.mpr ⟨List.mem_cons_of_mem _ (List.mem_append_left _ (List.mem_of_getElem? (i := 3) rfl)), fun _ h => absurd h List.not_mem_nil⟩⟩⟩⟩) (by decide +kernel)) gw_X9_weight_X9_isState
theorem gw_X9_which_X9_askFits : GoodIn W_X9_which W_X9_askFits := fun w h => ⟨List.mem_cons_of_mem _ (List.mem_append_right _ (List.mem_append_right _ (h))), (wI_X9_askFits w h).2⟩
theorem gc_X9_which_449_X9_askFits : GoodIn W_X9_which (wsV RX9 449 RX9 yX9_askFits W_X9_askFits) := goodIn_app (goodIn_sub (List.forall_mem_cons.mpr ⟨List.mem_cons_of_mem _ (List.mem_append_left _ (List.mem_of_getElem? (i := 0) rfl)), List.forall_mem_cons.mpr ⟨List.mem_cons_of_mem _ (List.mem_append_left _ (List.mem_of_getElem? (i := 1) rfl)), List.forall_mem_cons.mpr ⟨List.mem_cons_of_mem _ (List.mem_append_left _ (List.mem_of_getElem? (i := 2) rfl)), List.forall_mem_cons.mpr ⟨List.mem_cons_of_mem _ (List.mem_append_left _ (List.mem_of_getElem? (i := 3) rfl)), fun _ h => absurd h List.not_mem_nil⟩⟩⟩⟩) (by decide +kernel)) gw_X9_which_X9_askFits
theorem gw_X9_works_X9_asks : GoodIn W_X9_works W_X9_asks := fun w h => ⟨List.mem_cons_of_mem _ (List.mem_append_right _ (List.mem_append_left _ (h))), (wI_X9_asks w h).2⟩
theorem gc_X9_works_318_X9_asks : GoodIn W_X9_works (wsV RX9 318 RX9 yX9_asks W_X9_asks) := goodIn_app (goodIn_sub (List.forall_mem_cons.mpr ⟨List.mem_cons_of_mem _ (List.mem_append_left _ (List.mem_of_getElem? (i := 0) rfl)), List.forall_mem_cons.mpr ⟨List.mem_cons_of_mem _ (List.mem_append_left _ (List.mem_of_getElem? (i := 1) rfl)), List.forall_mem_cons.mpr ⟨List.mem_cons_of_mem _ (List.mem_append_left _ (List.mem_of_getElem? (i := 2) rfl)), List.forall_mem_cons.mpr ⟨List.mem_cons_of_mem _ (List.mem_append_left _ (List.mem_of_getElem? (i := 3) rfl)), fun _ h => absurd h List.not_mem_nil⟩⟩⟩⟩) (by decide +kernel)) gw_X9_works_X9_asks
theorem gw_X9_worst_X9_asksIn : GoodIn W_X9_worst W_X9_asksIn := fun w h => ⟨List.mem_cons_of_mem _ (List.mem_append_right _ (List.mem_append_right _ (List.mem_append_left _ (h)))), (wI_X9_asksIn w h).2⟩
theorem gc_X9_worst_399_X9_asksIn : GoodIn W_X9_worst (wsV RX9 399 RX9 yX9_asksIn W_X9_asksIn) := goodIn_app (goodIn_sub (List.forall_mem_cons.mpr ⟨List.mem_cons_of_mem _ (List.mem_append_left _ (List.mem_of_getElem? (i := 0) rfl)), List.forall_mem_cons.mpr ⟨List.mem_cons_of_mem _ (List.mem_append_left _ (List.mem_of_getElem? (i := 1) rfl)), List.forall_mem_cons.mpr ⟨List.mem_cons_of_mem _ (List.mem_append_left _ (List.mem_of_getElem? (i := 2) rfl)), List.forall_mem_cons.mpr ⟨List.mem_cons_of_mem _ (List.mem_append_left _ (List.mem_of_getElem? (i := 3) rfl)), fun _ h => absurd h List.not_mem_nil⟩⟩⟩⟩) (by decide +kernel)) gw_X9_worst_X9_asksIn
theorem gw_X9_worth_X9_isBase : GoodIn W_X9_worth W_X9_isBase := fun w h => ⟨List.mem_cons_of_mem _ (List.mem_append_right _ (List.mem_append_left _ (h))), (wI_X9_isBase w h).2⟩
theorem gc_X9_worth_92_X9_isBase : GoodIn W_X9_worth (wsV RX9 92 RX9 yX9_isBase W_X9_isBase) := goodIn_app (goodIn_sub (List.forall_mem_cons.mpr ⟨List.mem_cons_of_mem _ (List.mem_append_left _ (List.mem_of_getElem? (i := 0) rfl)), List.forall_mem_cons.mpr ⟨List.mem_cons_of_mem _ (List.mem_append_left _ (List.mem_of_getElem? (i := 1) rfl)), List.forall_mem_cons.mpr ⟨List.mem_cons_of_mem _ (List.mem_append_left _ (List.mem_of_getElem? (i := 2) rfl)), List.forall_mem_cons.mpr ⟨List.mem_cons_of_mem _ (List.mem_append_left _ (List.mem_of_getElem? (i := 3) rfl)), fun _ h => absurd h List.not_mem_nil⟩⟩⟩⟩) (by decide +kernel)) gw_X9_worth_X9_isBase
