theorem dX8_all_0 : decode cX8_all 0 = .ok (.aload_n 0, 1) := by decide +kernel
theorem dX8_all_1 : decode cX8_all 1 = .ok (.iload_n 1, 1) := by decide +kernel
theorem dX8_all_2 : decode cX8_all 2 = .ok (.invokevirtual 196, 3) := by decide +kernel
theorem dX8_all_5 : decode cX8_all 5 = .ok (.ifCond .eq 8, 3) := by decide +kernel
theorem dX8_all_8 : decode cX8_all 8 = .ok (.bipush (-2), 2) := by decide +kernel
theorem dX8_all_10 : decode cX8_all 10 = .ok (.goto 11, 3) := by decide +kernel
theorem dX8_all_21 : decode cX8_all 21 = .ok (.ireturn, 1) := by decide +kernel
theorem dX8_alone_0 : decode cX8_alone 0 = .ok (.aload_n 0, 1) := by decide +kernel
theorem dX8_alone_1 : decode cX8_alone 1 = .ok (.iload_n 1, 1) := by decide +kernel
theorem dX8_alone_2 : decode cX8_alone 2 = .ok (.invokevirtual 108, 3) := by decide +kernel
theorem dX8_alone_5 : decode cX8_alone 5 = .ok (.ifCond .ne 11, 3) := by decide +kernel
theorem dX8_alone_16 : decode cX8_alone 16 = .ok (.bipush (-2), 2) := by decide +kernel
theorem dX8_alone_18 : decode cX8_alone 18 = .ok (.ireturn, 1) := by decide +kernel
theorem dX8_anew_0 : decode cX8_anew 0 = .ok (.aload_n 0, 1) := by decide +kernel
theorem dX8_anew_1 : decode cX8_anew 1 = .ok (.invokevirtual 120, 3) := by decide +kernel
theorem dX8_anew_4 : decode cX8_anew 4 = .ok (.ifCond .ne 6, 3) := by decide +kernel
theorem dX8_anew_7 : decode cX8_anew 7 = .ok (.bipush (-2), 2) := by decide +kernel
theorem dX8_anew_9 : decode cX8_anew 9 = .ok (.ireturn, 1) := by decide +kernel
theorem dX8_asked_0 : decode cX8_asked 0 = .ok (.aload_n 0, 1) := by decide +kernel
theorem dX8_asked_1 : decode cX8_asked 1 = .ok (.iload_n 1, 1) := by decide +kernel
theorem dX8_asked_2 : decode cX8_asked 2 = .ok (.invokevirtual 124, 3) := by decide +kernel
theorem dX8_asked_5 : decode cX8_asked 5 = .ok (.ifCond .ne 11, 3) := by decide +kernel
theorem dX8_asked_16 : decode cX8_asked 16 = .ok (.bipush (-2), 2) := by decide +kernel
theorem dX8_asked_18 : decode cX8_asked 18 = .ok (.ireturn, 1) := by decide +kernel
theorem dX8_bad_0 : decode cX8_bad 0 = .ok (.aload_n 0, 1) := by decide +kernel
theorem dX8_bad_1 : decode cX8_bad 1 = .ok (.iload_n 1, 1) := by decide +kernel
theorem dX8_bad_2 : decode cX8_bad 2 = .ok (.invokevirtual 124, 3) := by decide +kernel
theorem dX8_bad_5 : decode cX8_bad 5 = .ok (.ifCond .ne 11, 3) := by decide +kernel
theorem dX8_bad_16 : decode cX8_bad 16 = .ok (.bipush (-2), 2) := by decide +kernel
theorem dX8_bad_18 : decode cX8_bad 18 = .ok (.goto 12, 3) := by decide +kernel
theorem dX8_bad_30 : decode cX8_bad 30 = .ok (.ireturn, 1) := by decide +kernel
theorem dX8_bare_0 : decode cX8_bare 0 = .ok (.aload_n 0, 1) := by decide +kernel
theorem dX8_bare_1 : decode cX8_bare 1 = .ok (.iload_n 1, 1) := by decide +kernel
theorem dX8_bare_2 : decode cX8_bare 2 = .ok (.invokevirtual 196, 3) := by decide +kernel
theorem dX8_bare_5 : decode cX8_bare 5 = .ok (.ifCond .eq 6, 3) := by decide +kernel
theorem dX8_bare_8 : decode cX8_bare 8 = .ok (.bipush (-2), 2) := by decide +kernel
theorem dX8_bare_10 : decode cX8_bare 10 = .ok (.ireturn, 1) := by decide +kernel
theorem dX8_blame_0 : decode cX8_blame 0 = .ok (.aload_n 0, 1) := by decide +kernel
theorem dX8_blame_1 : decode cX8_blame 1 = .ok (.invokevirtual 120, 3) := by decide +kernel
theorem dX8_blame_4 : decode cX8_blame 4 = .ok (.ifCond .ne 6, 3) := by decide +kernel
theorem dX8_blame_7 : decode cX8_blame 7 = .ok (.bipush (-2), 2) := by decide +kernel
theorem dX8_blame_9 : decode cX8_blame 9 = .ok (.ireturn, 1) := by decide +kernel
theorem dX8_bound_0 : decode cX8_bound 0 = .ok (.aload_n 0, 1) := by decide +kernel
theorem dX8_bound_1 : decode cX8_bound 1 = .ok (.invokevirtual 120, 3) := by decide +kernel
theorem dX8_bound_4 : decode cX8_bound 4 = .ok (.ifCond .ne 6, 3) := by decide +kernel
theorem dX8_bound_7 : decode cX8_bound 7 = .ok (.bipush (-2), 2) := by decide +kernel
theorem dX8_bound_9 : decode cX8_bound 9 = .ok (.ireturn, 1) := by decide +kernel
theorem dX8_breaks_0 : decode cX8_breaks 0 = .ok (.aload_n 0, 1) := by decide +kernel
theorem dX8_breaks_1 : decode cX8_breaks 1 = .ok (.iload_n 1, 1) := by decide +kernel
theorem dX8_breaks_2 : decode cX8_breaks 2 = .ok (.invokevirtual 124, 3) := by decide +kernel
theorem dX8_breaks_5 : decode cX8_breaks 5 = .ok (.ifCond .eq 8, 3) := by decide +kernel
theorem dX8_breaks_8 : decode cX8_breaks 8 = .ok (.bipush (-2), 2) := by decide +kernel
theorem dX8_breaks_10 : decode cX8_breaks 10 = .ok (.goto 11, 3) := by decide +kernel
theorem dX8_breaks_21 : decode cX8_breaks 21 = .ok (.ireturn, 1) := by decide +kernel
theorem dX8_by_0 : decode cX8_by 0 = .ok (.aload_n 0, 1) := by decide +kernel
theorem dX8_by_1 : decode cX8_by 1 = .ok (.invokevirtual 120, 3) := by decide +kernel
theorem dX8_by_4 : decode cX8_by 4 = .ok (.ifCond .eq 12, 3) := by decide +kernel
theorem dX8_by_16 : decode cX8_by 16 = .ok (.bipush (-2), 2) := by decide +kernel
theorem dX8_by_18 : decode cX8_by 18 = .ok (.goto 11, 3) := by decide +kernel
theorem dX8_by_29 : decode cX8_by 29 = .ok (.ireturn, 1) := by decide +kernel
theorem dX8_calm_0 : decode cX8_calm 0 = .ok (.aload_n 0, 1) := by decide +kernel
theorem dX8_calm_1 : decode cX8_calm 1 = .ok (.iload_n 1, 1) := by decide +kernel
theorem dX8_calm_2 : decode cX8_calm 2 = .ok (.invokevirtual 124, 3) := by decide +kernel
theorem dX8_calm_5 : decode cX8_calm 5 = .ok (.ifCond .eq 6, 3) := by decide +kernel
theorem dX8_calm_8 : decode cX8_calm 8 = .ok (.bipush (-2), 2) := by decide +kernel
theorem dX8_calm_10 : decode cX8_calm 10 = .ok (.ireturn, 1) := by decide +kernel
theorem dX8_cell_0 : decode cX8_cell 0 = .ok (.aload_n 0, 1) := by decide +kernel
theorem dX8_cell_1 : decode cX8_cell 1 = .ok (.iload_n 1, 1) := by decide +kernel
theorem dX8_cell_2 : decode cX8_cell 2 = .ok (.invokevirtual 100, 3) := by decide +kernel
theorem dX8_cell_5 : decode cX8_cell 5 = .ok (.ifCond .eq 8, 3) := by decide +kernel
theorem dX8_cell_8 : decode cX8_cell 8 = .ok (.bipush (-2), 2) := by decide +kernel
theorem dX8_cell_10 : decode cX8_cell 10 = .ok (.goto 12, 3) := by decide +kernel
theorem dX8_cell_22 : decode cX8_cell 22 = .ok (.ireturn, 1) := by decide +kernel
theorem dX8_chance_0 : decode cX8_chance 0 = .ok (.aload_n 0, 1) := by decide +kernel
theorem dX8_chance_1 : decode cX8_chance 1 = .ok (.invokevirtual 120, 3) := by decide +kernel
theorem dX8_chance_4 : decode cX8_chance 4 = .ok (.ifCond .eq 12, 3) := by decide +kernel
theorem dX8_chance_16 : decode cX8_chance 16 = .ok (.ldc2_w 285, 3) := by decide +kernel
theorem dX8_chance_19 : decode cX8_chance 19 = .ok (.goto 11, 3) := by decide +kernel
theorem dX8_chance_30 : decode cX8_chance 30 = .ok (.lreturn, 1) := by decide +kernel
theorem dX8_clashes_0 : decode cX8_clashes 0 = .ok (.aload_n 0, 1) := by decide +kernel
theorem dX8_clashes_1 : decode cX8_clashes 1 = .ok (.iload_n 1, 1) := by decide +kernel
theorem dX8_clashes_2 : decode cX8_clashes 2 = .ok (.invokevirtual 114, 3) := by decide +kernel
theorem dX8_clashes_5 : decode cX8_clashes 5 = .ok (.ifCond .ne 11, 3) := by decide +kernel
theorem dX8_clashes_16 : decode cX8_clashes 16 = .ok (.bipush (-2), 2) := by decide +kernel
theorem dX8_clashes_18 : decode cX8_clashes 18 = .ok (.goto 12, 3) := by decide +kernel
theorem dX8_clashes_30 : decode cX8_clashes 30 = .ok (.ireturn, 1) := by decide +kernel
theorem dX8_commute_0 : decode cX8_commute 0 = .ok (.aload_n 0, 1) := by decide +kernel
theorem dX8_commute_1 : decode cX8_commute 1 = .ok (.iload_n 1, 1) := by decide +kernel
theorem dX8_commute_2 : decode cX8_commute 2 = .ok (.invokevirtual 114, 3) := by decide +kernel
theorem dX8_commute_5 : decode cX8_commute 5 = .ok (.ifCond .ne 11, 3) := by decide +kernel
theorem dX8_commute_16 : decode cX8_commute 16 = .ok (.bipush (-2), 2) := by decide +kernel
theorem dX8_commute_18 : decode cX8_commute 18 = .ok (.ireturn, 1) := by decide +kernel
theorem dX8_culprit_0 : decode cX8_culprit 0 = .ok (.aload_n 0, 1) := by decide +kernel
theorem dX8_culprit_1 : decode cX8_culprit 1 = .ok (.iload_n 1, 1) := by decide +kernel
theorem dX8_culprit_2 : decode cX8_culprit 2 = .ok (.invokevirtual 196, 3) := by decide +kernel
theorem dX8_culprit_5 : decode cX8_culprit 5 = .ok (.ifCond .eq 6, 3) := by decide +kernel
theorem dX8_culprit_8 : decode cX8_culprit 8 = .ok (.bipush (-2), 2) := by decide +kernel
theorem dX8_culprit_10 : decode cX8_culprit 10 = .ok (.ireturn, 1) := by decide +kernel
theorem dX8_cure_0 : decode cX8_cure 0 = .ok (.aload_n 0, 1) := by decide +kernel
theorem dX8_cure_1 : decode cX8_cure 1 = .ok (.invokevirtual 120, 3) := by decide +kernel
theorem dX8_cure_4 : decode cX8_cure 4 = .ok (.ifCond .ne 6, 3) := by decide +kernel
theorem dX8_cure_7 : decode cX8_cure 7 = .ok (.bipush (-2), 2) := by decide +kernel
theorem dX8_cure_9 : decode cX8_cure 9 = .ok (.ireturn, 1) := by decide +kernel
theorem dX8_dead_0 : decode cX8_dead 0 = .ok (.aload_n 0, 1) := by decide +kernel
theorem dX8_dead_1 : decode cX8_dead 1 = .ok (.invokevirtual 120, 3) := by decide +kernel
theorem dX8_dead_4 : decode cX8_dead 4 = .ok (.ifCond .ne 6, 3) := by decide +kernel
theorem dX8_dead_7 : decode cX8_dead 7 = .ok (.bipush (-2), 2) := by decide +kernel
theorem dX8_dead_9 : decode cX8_dead 9 = .ok (.ireturn, 1) := by decide +kernel
theorem dX8_does_0 : decode cX8_does 0 = .ok (.aload_n 0, 1) := by decide +kernel
theorem dX8_does_1 : decode cX8_does 1 = .ok (.iload_n 1, 1) := by decide +kernel
theorem dX8_does_2 : decode cX8_does 2 = .ok (.invokevirtual 114, 3) := by decide +kernel
theorem dX8_does_5 : decode cX8_does 5 = .ok (.ifCond .ne 11, 3) := by decide +kernel
theorem dX8_does_16 : decode cX8_does 16 = .ok (.bipush (-2), 2) := by decide +kernel
theorem dX8_does_18 : decode cX8_does 18 = .ok (.goto 12, 3) := by decide +kernel
theorem dX8_does_30 : decode cX8_does 30 = .ok (.ireturn, 1) := by decide +kernel
theorem dX8_drawn_0 : decode cX8_drawn 0 = .ok (.aload_n 0, 1) := by decide +kernel
theorem dX8_drawn_1 : decode cX8_drawn 1 = .ok (.invokevirtual 120, 3) := by decide +kernel
theorem dX8_drawn_4 : decode cX8_drawn 4 = .ok (.ifCond .eq 23, 3) := by decide +kernel
theorem dX8_drawn_27 : decode cX8_drawn 27 = .ok (.bipush (-2), 2) := by decide +kernel
theorem dX8_drawn_29 : decode cX8_drawn 29 = .ok (.ireturn, 1) := by decide +kernel
theorem dX8_dropped_0 : decode cX8_dropped 0 = .ok (.aload_n 0, 1) := by decide +kernel
theorem dX8_dropped_1 : decode cX8_dropped 1 = .ok (.invokevirtual 120, 3) := by decide +kernel
theorem dX8_dropped_4 : decode cX8_dropped 4 = .ok (.ifCond .eq 13, 3) := by decide +kernel
theorem dX8_dropped_17 : decode cX8_dropped 17 = .ok (.bipush (-2), 2) := by decide +kernel
theorem dX8_dropped_19 : decode cX8_dropped 19 = .ok (.ireturn, 1) := by decide +kernel
theorem dX8_drops_0 : decode cX8_drops 0 = .ok (.aload_n 0, 1) := by decide +kernel
theorem dX8_drops_1 : decode cX8_drops 1 = .ok (.iload_n 1, 1) := by decide +kernel
theorem dX8_drops_2 : decode cX8_drops 2 = .ok (.invokevirtual 108, 3) := by decide +kernel
theorem dX8_drops_5 : decode cX8_drops 5 = .ok (.ifCond .eq 8, 3) := by decide +kernel
theorem dX8_drops_8 : decode cX8_drops 8 = .ok (.bipush (-2), 2) := by decide +kernel
theorem dX8_drops_10 : decode cX8_drops 10 = .ok (.goto 25, 3) := by decide +kernel
theorem dX8_drops_35 : decode cX8_drops 35 = .ok (.ireturn, 1) := by decide +kernel
theorem dX8_even_0 : decode cX8_even 0 = .ok (.aload_n 0, 1) := by decide +kernel
theorem dX8_even_1 : decode cX8_even 1 = .ok (.iload_n 1, 1) := by decide +kernel
theorem dX8_even_2 : decode cX8_even 2 = .ok (.invokevirtual 124, 3) := by decide +kernel
theorem dX8_even_5 : decode cX8_even 5 = .ok (.ifCond .ne 19, 3) := by decide +kernel
theorem dX8_even_24 : decode cX8_even 24 = .ok (.bipush (-2), 2) := by decide +kernel
theorem dX8_even_26 : decode cX8_even 26 = .ok (.ireturn, 1) := by decide +kernel
theorem dX8_far_0 : decode cX8_far 0 = .ok (.aload_n 0, 1) := by decide +kernel
theorem dX8_far_1 : decode cX8_far 1 = .ok (.iload_n 1, 1) := by decide +kernel
theorem dX8_far_2 : decode cX8_far 2 = .ok (.invokevirtual 124, 3) := by decide +kernel
theorem dX8_far_5 : decode cX8_far 5 = .ok (.ifCond .ne 11, 3) := by decide +kernel
theorem dX8_far_16 : decode cX8_far 16 = .ok (.bipush (-2), 2) := by decide +kernel
theorem dX8_far_18 : decode cX8_far 18 = .ok (.goto 12, 3) := by decide +kernel
theorem dX8_far_30 : decode cX8_far 30 = .ok (.ireturn, 1) := by decide +kernel
theorem dX8_fewest_0 : decode cX8_fewest 0 = .ok (.aload_n 0, 1) := by decide +kernel
theorem dX8_fewest_1 : decode cX8_fewest 1 = .ok (.iload_n 1, 1) := by decide +kernel
theorem dX8_fewest_2 : decode cX8_fewest 2 = .ok (.invokevirtual 196, 3) := by decide +kernel
theorem dX8_fewest_5 : decode cX8_fewest 5 = .ok (.ifCond .eq 6, 3) := by decide +kernel
theorem dX8_fewest_8 : decode cX8_fewest 8 = .ok (.bipush (-2), 2) := by decide +kernel
theorem dX8_fewest_10 : decode cX8_fewest 10 = .ok (.ireturn, 1) := by decide +kernel
theorem dX8_fine_0 : decode cX8_fine 0 = .ok (.aload_n 0, 1) := by decide +kernel
theorem dX8_fine_1 : decode cX8_fine 1 = .ok (.iload_n 1, 1) := by decide +kernel
theorem dX8_fine_2 : decode cX8_fine 2 = .ok (.invokevirtual 196, 3) := by decide +kernel
theorem dX8_fine_5 : decode cX8_fine 5 = .ok (.ifCond .eq 6, 3) := by decide +kernel
theorem dX8_fine_8 : decode cX8_fine 8 = .ok (.bipush (-2), 2) := by decide +kernel
theorem dX8_fine_10 : decode cX8_fine 10 = .ok (.ireturn, 1) := by decide +kernel
theorem dX8_fits_0 : decode cX8_fits 0 = .ok (.aload_n 0, 1) := by decide +kernel
theorem dX8_fits_1 : decode cX8_fits 1 = .ok (.iload_n 1, 1) := by decide +kernel
theorem dX8_fits_2 : decode cX8_fits 2 = .ok (.invokevirtual 254, 3) := by decide +kernel
theorem dX8_fits_5 : decode cX8_fits 5 = .ok (.istore_n 2, 1) := by decide +kernel
theorem dX8_fits_6 : decode cX8_fits 6 = .ok (.iload_n 2, 1) := by decide +kernel
theorem dX8_fits_7 : decode cX8_fits 7 = .ok (.ifCond .eq 7, 3) := by decide +kernel
theorem dX8_fits_10 : decode cX8_fits 10 = .ok (.iload_n 2, 1) := by decide +kernel
theorem dX8_fits_11 : decode cX8_fits 11 = .ok (.goto 26, 3) := by decide +kernel
theorem dX8_fits_37 : decode cX8_fits 37 = .ok (.ireturn, 1) := by decide +kernel
theorem dX8_freely_0 : decode cX8_freely 0 = .ok (.aload_n 0, 1) := by decide +kernel
theorem dX8_freely_1 : decode cX8_freely 1 = .ok (.iload_n 1, 1) := by decide +kernel
theorem dX8_freely_2 : decode cX8_freely 2 = .ok (.invokevirtual 124, 3) := by decide +kernel
theorem dX8_freely_5 : decode cX8_freely 5 = .ok (.ifCond .ne 11, 3) := by decide +kernel
theorem dX8_freely_16 : decode cX8_freely 16 = .ok (.bipush (-2), 2) := by decide +kernel
theorem dX8_freely_18 : decode cX8_freely 18 = .ok (.ireturn, 1) := by decide +kernel
theorem dX8_frees_0 : decode cX8_frees 0 = .ok (.aload_n 0, 1) := by decide +kernel
theorem dX8_frees_1 : decode cX8_frees 1 = .ok (.iload_n 1, 1) := by decide +kernel
theorem dX8_frees_2 : decode cX8_frees 2 = .ok (.invokevirtual 114, 3) := by decide +kernel
theorem dX8_frees_5 : decode cX8_frees 5 = .ok (.ifCond .eq 6, 3) := by decide +kernel
theorem dX8_frees_8 : decode cX8_frees 8 = .ok (.bipush (-2), 2) := by decide +kernel
theorem dX8_frees_10 : decode cX8_frees 10 = .ok (.ireturn, 1) := by decide +kernel
theorem dX8_gets_0 : decode cX8_gets 0 = .ok (.aload_n 0, 1) := by decide +kernel
theorem dX8_gets_1 : decode cX8_gets 1 = .ok (.iload_n 1, 1) := by decide +kernel
theorem dX8_gets_2 : decode cX8_gets 2 = .ok (.iload_n 2, 1) := by decide +kernel
theorem dX8_gets_3 : decode cX8_gets 3 = .ok (.invokevirtual 275, 3) := by decide +kernel
theorem dX8_gets_6 : decode cX8_gets 6 = .ok (.ifCond .ne 23, 3) := by decide +kernel
theorem dX8_gets_29 : decode cX8_gets 29 = .ok (.ldc_w 270, 3) := by decide +kernel
theorem dX8_gets_32 : decode cX8_gets 32 = .ok (.ireturn, 1) := by decide +kernel
theorem dX8_hard_0 : decode cX8_hard 0 = .ok (.aload_n 0, 1) := by decide +kernel
theorem dX8_hard_1 : decode cX8_hard 1 = .ok (.invokevirtual 120, 3) := by decide +kernel
theorem dX8_hard_4 : decode cX8_hard 4 = .ok (.ifCond .ne 6, 3) := by decide +kernel
theorem dX8_hard_7 : decode cX8_hard 7 = .ok (.bipush (-2), 2) := by decide +kernel
theorem dX8_hard_9 : decode cX8_hard 9 = .ok (.ireturn, 1) := by decide +kernel
theorem dX8_hits_0 : decode cX8_hits 0 = .ok (.aload_n 0, 1) := by decide +kernel
theorem dX8_hits_1 : decode cX8_hits 1 = .ok (.iload_n 1, 1) := by decide +kernel
theorem dX8_hits_2 : decode cX8_hits 2 = .ok (.invokevirtual 108, 3) := by decide +kernel
theorem dX8_hits_5 : decode cX8_hits 5 = .ok (.ifCond .ne 11, 3) := by decide +kernel
theorem dX8_hits_16 : decode cX8_hits 16 = .ok (.bipush (-2), 2) := by decide +kernel
theorem dX8_hits_18 : decode cX8_hits 18 = .ok (.ireturn, 1) := by decide +kernel
theorem dX8_holds_0 : decode cX8_holds 0 = .ok (.aload_n 0, 1) := by decide +kernel
theorem dX8_holds_1 : decode cX8_holds 1 = .ok (.iload_n 1, 1) := by decide +kernel
theorem dX8_holds_2 : decode cX8_holds 2 = .ok (.invokevirtual 108, 3) := by decide +kernel
theorem dX8_holds_5 : decode cX8_holds 5 = .ok (.ifCond .ne 11, 3) := by decide +kernel
theorem dX8_holds_16 : decode cX8_holds 16 = .ok (.bipush (-2), 2) := by decide +kernel
theorem dX8_holds_18 : decode cX8_holds 18 = .ok (.ireturn, 1) := by decide +kernel
theorem dX8_hot_0 : decode cX8_hot 0 = .ok (.aload_n 0, 1) := by decide +kernel
theorem dX8_hot_1 : decode cX8_hot 1 = .ok (.iload_n 1, 1) := by decide +kernel
theorem dX8_hot_2 : decode cX8_hot 2 = .ok (.invokevirtual 196, 3) := by decide +kernel
theorem dX8_hot_5 : decode cX8_hot 5 = .ok (.ifCond .eq 6, 3) := by decide +kernel
theorem dX8_hot_8 : decode cX8_hot 8 = .ok (.bipush (-2), 2) := by decide +kernel
theorem dX8_hot_10 : decode cX8_hot 10 = .ok (.ireturn, 1) := by decide +kernel
theorem dX8_known_0 : decode cX8_known 0 = .ok (.aload_n 0, 1) := by decide +kernel
theorem dX8_known_1 : decode cX8_known 1 = .ok (.iload_n 1, 1) := by decide +kernel
theorem dX8_known_2 : decode cX8_known 2 = .ok (.invokevirtual 108, 3) := by decide +kernel
theorem dX8_known_5 : decode cX8_known 5 = .ok (.ifCond .eq 6, 3) := by decide +kernel
theorem dX8_known_8 : decode cX8_known 8 = .ok (.bipush (-2), 2) := by decide +kernel
theorem dX8_known_10 : decode cX8_known 10 = .ok (.ireturn, 1) := by decide +kernel
theorem dX8_law_0 : decode cX8_law 0 = .ok (.aload_n 0, 1) := by decide +kernel
theorem dX8_law_1 : decode cX8_law 1 = .ok (.invokevirtual 120, 3) := by decide +kernel
theorem dX8_law_4 : decode cX8_law 4 = .ok (.ifCond .ne 6, 3) := by decide +kernel
theorem dX8_law_7 : decode cX8_law 7 = .ok (.bipush (-2), 2) := by decide +kernel
theorem dX8_law_9 : decode cX8_law 9 = .ok (.ireturn, 1) := by decide +kernel
theorem dX8_laws_0 : decode cX8_laws 0 = .ok (.aload_n 0, 1) := by decide +kernel
theorem dX8_laws_1 : decode cX8_laws 1 = .ok (.iload_n 1, 1) := by decide +kernel
theorem dX8_laws_2 : decode cX8_laws 2 = .ok (.invokevirtual 254, 3) := by decide +kernel
theorem dX8_laws_5 : decode cX8_laws 5 = .ok (.istore_n 2, 1) := by decide +kernel
theorem dX8_laws_6 : decode cX8_laws 6 = .ok (.iload_n 2, 1) := by decide +kernel
theorem dX8_laws_7 : decode cX8_laws 7 = .ok (.ifCond .eq 5, 3) := by decide +kernel
theorem dX8_laws_10 : decode cX8_laws 10 = .ok (.iload_n 2, 1) := by decide +kernel
theorem dX8_laws_11 : decode cX8_laws 11 = .ok (.ireturn, 1) := by decide +kernel
theorem dX8_least_0 : decode cX8_least 0 = .ok (.aload_n 0, 1) := by decide +kernel
theorem dX8_least_1 : decode cX8_least 1 = .ok (.iload_n 1, 1) := by decide +kernel
theorem dX8_least_2 : decode cX8_least 2 = .ok (.invokevirtual 196, 3) := by decide +kernel
theorem dX8_least_5 : decode cX8_least 5 = .ok (.ifCond .ne 12, 3) := by decide +kernel
theorem dX8_least_17 : decode cX8_least 17 = .ok (.bipush (-2), 2) := by decide +kernel
theorem dX8_least_19 : decode cX8_least 19 = .ok (.ireturn, 1) := by decide +kernel
theorem dX8_lock_0 : decode cX8_lock 0 = .ok (.aload_n 0, 1) := by decide +kernel
theorem dX8_lock_1 : decode cX8_lock 1 = .ok (.iload_n 1, 1) := by decide +kernel
theorem dX8_lock_2 : decode cX8_lock 2 = .ok (.invokevirtual 114, 3) := by decide +kernel
theorem dX8_lock_5 : decode cX8_lock 5 = .ok (.ifCond .eq 8, 3) := by decide +kernel
theorem dX8_lock_8 : decode cX8_lock 8 = .ok (.bipush (-2), 2) := by decide +kernel
theorem dX8_lock_10 : decode cX8_lock 10 = .ok (.goto 25, 3) := by decide +kernel
theorem dX8_lock_35 : decode cX8_lock 35 = .ok (.ireturn, 1) := by decide +kernel
theorem dX8_locked_0 : decode cX8_locked 0 = .ok (.aload_n 0, 1) := by decide +kernel
theorem dX8_locked_1 : decode cX8_locked 1 = .ok (.invokevirtual 120, 3) := by decide +kernel
theorem dX8_locked_4 : decode cX8_locked 4 = .ok (.ifCond .eq 13, 3) := by decide +kernel
theorem dX8_locked_17 : decode cX8_locked 17 = .ok (.bipush (-2), 2) := by decide +kernel
theorem dX8_locked_19 : decode cX8_locked 19 = .ok (.ireturn, 1) := by decide +kernel
theorem dX8_locks_0 : decode cX8_locks 0 = .ok (.aload_n 0, 1) := by decide +kernel
theorem dX8_locks_1 : decode cX8_locks 1 = .ok (.iload_n 1, 1) := by decide +kernel
theorem dX8_locks_2 : decode cX8_locks 2 = .ok (.invokevirtual 196, 3) := by decide +kernel
theorem dX8_locks_5 : decode cX8_locks 5 = .ok (.ifCond .eq 8, 3) := by decide +kernel
theorem dX8_locks_8 : decode cX8_locks 8 = .ok (.bipush (-2), 2) := by decide +kernel
theorem dX8_locks_10 : decode cX8_locks 10 = .ok (.goto 11, 3) := by decide +kernel
theorem dX8_locks_21 : decode cX8_locks 21 = .ok (.ireturn, 1) := by decide +kernel
theorem dX8_luck_0 : decode cX8_luck 0 = .ok (.aload_n 0, 1) := by decide +kernel
theorem dX8_luck_1 : decode cX8_luck 1 = .ok (.invokevirtual 120, 3) := by decide +kernel
theorem dX8_luck_4 : decode cX8_luck 4 = .ok (.ifCond .eq 25, 3) := by decide +kernel
theorem dX8_luck_29 : decode cX8_luck 29 = .ok (.bipush (-2), 2) := by decide +kernel
theorem dX8_luck_31 : decode cX8_luck 31 = .ok (.ireturn, 1) := by decide +kernel
theorem dX8_mean_0 : decode cX8_mean 0 = .ok (.aload_n 0, 1) := by decide +kernel
theorem dX8_mean_1 : decode cX8_mean 1 = .ok (.invokevirtual 120, 3) := by decide +kernel
theorem dX8_mean_4 : decode cX8_mean 4 = .ok (.ifCond .eq 12, 3) := by decide +kernel
theorem dX8_mean_16 : decode cX8_mean 16 = .ok (.ldc2_w 285, 3) := by decide +kernel
theorem dX8_mean_19 : decode cX8_mean 19 = .ok (.goto 11, 3) := by decide +kernel
theorem dX8_mean_30 : decode cX8_mean 30 = .ok (.lreturn, 1) := by decide +kernel
theorem dX8_merge_0 : decode cX8_merge 0 = .ok (.aload_n 0, 1) := by decide +kernel
theorem dX8_merge_1 : decode cX8_merge 1 = .ok (.iload_n 1, 1) := by decide +kernel
theorem dX8_merge_2 : decode cX8_merge 2 = .ok (.invokevirtual 124, 3) := by decide +kernel
theorem dX8_merge_5 : decode cX8_merge 5 = .ok (.ifCond .ne 19, 3) := by decide +kernel
theorem dX8_merge_24 : decode cX8_merge 24 = .ok (.bipush (-2), 2) := by decide +kernel
theorem dX8_merge_26 : decode cX8_merge 26 = .ok (.ireturn, 1) := by decide +kernel
theorem dX8_nearest_0 : decode cX8_nearest 0 = .ok (.aload_n 0, 1) := by decide +kernel
theorem dX8_nearest_1 : decode cX8_nearest 1 = .ok (.iload_n 1, 1) := by decide +kernel
theorem dX8_nearest_2 : decode cX8_nearest 2 = .ok (.invokevirtual 124, 3) := by decide +kernel
theorem dX8_nearest_5 : decode cX8_nearest 5 = .ok (.ifCond .eq 6, 3) := by decide +kernel
theorem dX8_nearest_8 : decode cX8_nearest 8 = .ok (.bipush (-2), 2) := by decide +kernel
theorem dX8_nearest_10 : decode cX8_nearest 10 = .ok (.ireturn, 1) := by decide +kernel
theorem dX8_needed_0 : decode cX8_needed 0 = .ok (.aload_n 0, 1) := by decide +kernel
theorem dX8_needed_1 : decode cX8_needed 1 = .ok (.iload_n 1, 1) := by decide +kernel
theorem dX8_needed_2 : decode cX8_needed 2 = .ok (.invokevirtual 196, 3) := by decide +kernel
theorem dX8_needed_5 : decode cX8_needed 5 = .ok (.ifCond .eq 8, 3) := by decide +kernel
theorem dX8_needed_8 : decode cX8_needed 8 = .ok (.bipush (-2), 2) := by decide +kernel
theorem dX8_needed_10 : decode cX8_needed 10 = .ok (.goto 11, 3) := by decide +kernel
theorem dX8_needed_21 : decode cX8_needed 21 = .ok (.ireturn, 1) := by decide +kernel
theorem dX8_op_0 : decode cX8_op 0 = .ok (.aload_n 0, 1) := by decide +kernel
theorem dX8_op_1 : decode cX8_op 1 = .ok (.iload_n 1, 1) := by decide +kernel
theorem dX8_op_2 : decode cX8_op 2 = .ok (.invokevirtual 114, 3) := by decide +kernel
theorem dX8_op_5 : decode cX8_op 5 = .ok (.ifCond .ne 12, 3) := by decide +kernel
theorem dX8_op_17 : decode cX8_op 17 = .ok (.bipush (-2), 2) := by decide +kernel
theorem dX8_op_19 : decode cX8_op 19 = .ok (.ireturn, 1) := by decide +kernel
theorem dX8_opens_0 : decode cX8_opens 0 = .ok (.aload_n 0, 1) := by decide +kernel
theorem dX8_opens_1 : decode cX8_opens 1 = .ok (.iload_n 1, 1) := by decide +kernel
theorem dX8_opens_2 : decode cX8_opens 2 = .ok (.invokevirtual 124, 3) := by decide +kernel
theorem dX8_opens_5 : decode cX8_opens 5 = .ok (.ifCond .eq 8, 3) := by decide +kernel
theorem dX8_opens_8 : decode cX8_opens 8 = .ok (.bipush (-2), 2) := by decide +kernel
theorem dX8_opens_10 : decode cX8_opens 10 = .ok (.goto 11, 3) := by decide +kernel
theorem dX8_opens_21 : decode cX8_opens 21 = .ok (.ireturn, 1) := by decide +kernel
theorem dX8_pairs_0 : decode cX8_pairs 0 = .ok (.aload_n 0, 1) := by decide +kernel
theorem dX8_pairs_1 : decode cX8_pairs 1 = .ok (.iload_n 1, 1) := by decide +kernel
theorem dX8_pairs_2 : decode cX8_pairs 2 = .ok (.invokevirtual 196, 3) := by decide +kernel
theorem dX8_pairs_5 : decode cX8_pairs 5 = .ok (.ifCond .eq 8, 3) := by decide +kernel
theorem dX8_pairs_8 : decode cX8_pairs 8 = .ok (.bipush (-2), 2) := by decide +kernel
theorem dX8_pairs_10 : decode cX8_pairs 10 = .ok (.goto 11, 3) := by decide +kernel
theorem dX8_pairs_21 : decode cX8_pairs 21 = .ok (.ireturn, 1) := by decide +kernel
theorem dX8_rate_0 : decode cX8_rate 0 = .ok (.aload_n 0, 1) := by decide +kernel
theorem dX8_rate_1 : decode cX8_rate 1 = .ok (.iload_n 1, 1) := by decide +kernel
theorem dX8_rate_2 : decode cX8_rate 2 = .ok (.invokevirtual 100, 3) := by decide +kernel
theorem dX8_rate_5 : decode cX8_rate 5 = .ok (.ifCond .ne 12, 3) := by decide +kernel
theorem dX8_rate_17 : decode cX8_rate 17 = .ok (.bipush (-2), 2) := by decide +kernel
theorem dX8_rate_19 : decode cX8_rate 19 = .ok (.ireturn, 1) := by decide +kernel
theorem dX8_reach_0 : decode cX8_reach 0 = .ok (.aload_n 0, 1) := by decide +kernel
theorem dX8_reach_1 : decode cX8_reach 1 = .ok (.iload_n 1, 1) := by decide +kernel
theorem dX8_reach_2 : decode cX8_reach 2 = .ok (.invokevirtual 124, 3) := by decide +kernel
theorem dX8_reach_5 : decode cX8_reach 5 = .ok (.ifCond .ne 11, 3) := by decide +kernel
theorem dX8_reach_16 : decode cX8_reach 16 = .ok (.bipush (-2), 2) := by decide +kernel
theorem dX8_reach_18 : decode cX8_reach 18 = .ok (.ireturn, 1) := by decide +kernel
theorem dX8_refusalOfRow_0 : decode cX8_refusalOfRow 0 = .ok (.aload_n 0, 1) := by decide +kernel
theorem dX8_refusalOfRow_1 : decode cX8_refusalOfRow 1 = .ok (.invokevirtual 120, 3) := by decide +kernel
theorem dX8_refusalOfRow_4 : decode cX8_refusalOfRow 4 = .ok (.ifCond .eq 11, 3) := by decide +kernel
theorem dX8_refusalOfRow_15 : decode cX8_refusalOfRow 15 = .ok (.bipush (-2), 2) := by decide +kernel
theorem dX8_refusalOfRow_17 : decode cX8_refusalOfRow 17 = .ok (.ireturn, 1) := by decide +kernel
theorem dX8_rests_0 : decode cX8_rests 0 = .ok (.aload_n 0, 1) := by decide +kernel
theorem dX8_rests_1 : decode cX8_rests 1 = .ok (.iload_n 1, 1) := by decide +kernel
theorem dX8_rests_2 : decode cX8_rests 2 = .ok (.iload_n 2, 1) := by decide +kernel
theorem dX8_rests_3 : decode cX8_rests 3 = .ok (.invokevirtual 275, 3) := by decide +kernel
theorem dX8_rests_6 : decode cX8_rests 6 = .ok (.ifCond .eq 8, 3) := by decide +kernel
theorem dX8_rests_9 : decode cX8_rests 9 = .ok (.bipush (-2), 2) := by decide +kernel
theorem dX8_rests_11 : decode cX8_rests 11 = .ok (.goto 12, 3) := by decide +kernel
theorem dX8_rests_23 : decode cX8_rests 23 = .ok (.ireturn, 1) := by decide +kernel
theorem dX8_room_0 : decode cX8_room 0 = .ok (.aload_n 0, 1) := by decide +kernel
theorem dX8_room_1 : decode cX8_room 1 = .ok (.iload_n 1, 1) := by decide +kernel
theorem dX8_room_2 : decode cX8_room 2 = .ok (.invokevirtual 100, 3) := by decide +kernel
theorem dX8_room_5 : decode cX8_room 5 = .ok (.ifCond .eq 6, 3) := by decide +kernel
theorem dX8_room_8 : decode cX8_room 8 = .ok (.bipush (-2), 2) := by decide +kernel
theorem dX8_room_10 : decode cX8_room 10 = .ok (.ireturn, 1) := by decide +kernel
theorem dX8_rule_0 : decode cX8_rule 0 = .ok (.aload_n 0, 1) := by decide +kernel
theorem dX8_rule_1 : decode cX8_rule 1 = .ok (.iload_n 1, 1) := by decide +kernel
theorem dX8_rule_2 : decode cX8_rule 2 = .ok (.invokevirtual 108, 3) := by decide +kernel
theorem dX8_rule_5 : decode cX8_rule 5 = .ok (.ifCond .ne 12, 3) := by decide +kernel
theorem dX8_rule_17 : decode cX8_rule 17 = .ok (.bipush (-2), 2) := by decide +kernel
theorem dX8_rule_19 : decode cX8_rule 19 = .ok (.ireturn, 1) := by decide +kernel
theorem dX8_safe_0 : decode cX8_safe 0 = .ok (.aload_n 0, 1) := by decide +kernel
theorem dX8_safe_1 : decode cX8_safe 1 = .ok (.iload_n 1, 1) := by decide +kernel
theorem dX8_safe_2 : decode cX8_safe 2 = .ok (.invokevirtual 196, 3) := by decide +kernel
theorem dX8_safe_5 : decode cX8_safe 5 = .ok (.ifCond .eq 6, 3) := by decide +kernel
theorem dX8_safe_8 : decode cX8_safe 8 = .ok (.bipush (-2), 2) := by decide +kernel
theorem dX8_safe_10 : decode cX8_safe 10 = .ok (.ireturn, 1) := by decide +kernel
theorem dX8_share_0 : decode cX8_share 0 = .ok (.aload_n 0, 1) := by decide +kernel
theorem dX8_share_1 : decode cX8_share 1 = .ok (.iload_n 1, 1) := by decide +kernel
theorem dX8_share_2 : decode cX8_share 2 = .ok (.invokevirtual 108, 3) := by decide +kernel
theorem dX8_share_5 : decode cX8_share 5 = .ok (.ifCond .ne 12, 3) := by decide +kernel
theorem dX8_share_17 : decode cX8_share 17 = .ok (.ldc_w 270, 3) := by decide +kernel
theorem dX8_share_20 : decode cX8_share 20 = .ok (.ireturn, 1) := by decide +kernel
theorem dX8_spare_0 : decode cX8_spare 0 = .ok (.aload_n 0, 1) := by decide +kernel
theorem dX8_spare_1 : decode cX8_spare 1 = .ok (.iload_n 1, 1) := by decide +kernel
theorem dX8_spare_2 : decode cX8_spare 2 = .ok (.invokevirtual 108, 3) := by decide +kernel
theorem dX8_spare_5 : decode cX8_spare 5 = .ok (.ifCond .eq 6, 3) := by decide +kernel
theorem dX8_spare_8 : decode cX8_spare 8 = .ok (.bipush (-2), 2) := by decide +kernel
theorem dX8_spare_10 : decode cX8_spare 10 = .ok (.ireturn, 1) := by decide +kernel
theorem dX8_states_0 : decode cX8_states 0 = .ok (.aload_n 0, 1) := by decide +kernel
theorem dX8_states_1 : decode cX8_states 1 = .ok (.invokevirtual 120, 3) := by decide +kernel
theorem dX8_states_4 : decode cX8_states 4 = .ok (.ifCond .eq 13, 3) := by decide +kernel
theorem dX8_states_17 : decode cX8_states 17 = .ok (.bipush (-2), 2) := by decide +kernel
theorem dX8_states_19 : decode cX8_states 19 = .ok (.ireturn, 1) := by decide +kernel
theorem dX8_step_0 : decode cX8_step 0 = .ok (.aload_n 0, 1) := by decide +kernel
theorem dX8_step_1 : decode cX8_step 1 = .ok (.iload_n 1, 1) := by decide +kernel
theorem dX8_step_2 : decode cX8_step 2 = .ok (.invokevirtual 124, 3) := by decide +kernel
theorem dX8_step_5 : decode cX8_step 5 = .ok (.ifCond .ne 11, 3) := by decide +kernel
theorem dX8_step_16 : decode cX8_step 16 = .ok (.bipush (-2), 2) := by decide +kernel
theorem dX8_step_18 : decode cX8_step 18 = .ok (.goto 12, 3) := by decide +kernel
theorem dX8_step_30 : decode cX8_step 30 = .ok (.ireturn, 1) := by decide +kernel
theorem dX8_table_0 : decode cX8_table 0 = .ok (.aload_n 0, 1) := by decide +kernel
theorem dX8_table_1 : decode cX8_table 1 = .ok (.invokevirtual 120, 3) := by decide +kernel
theorem dX8_table_4 : decode cX8_table 4 = .ok (.ifCond .ne 6, 3) := by decide +kernel
theorem dX8_table_7 : decode cX8_table 7 = .ok (.bipush (-2), 2) := by decide +kernel
theorem dX8_table_9 : decode cX8_table 9 = .ok (.ireturn, 1) := by decide +kernel
theorem dX8_undo_0 : decode cX8_undo 0 = .ok (.aload_n 0, 1) := by decide +kernel
theorem dX8_undo_1 : decode cX8_undo 1 = .ok (.invokevirtual 120, 3) := by decide +kernel
theorem dX8_undo_4 : decode cX8_undo 4 = .ok (.ifCond .ne 6, 3) := by decide +kernel
theorem dX8_undo_7 : decode cX8_undo 7 = .ok (.bipush (-2), 2) := by decide +kernel
theorem dX8_undo_9 : decode cX8_undo 9 = .ok (.ireturn, 1) := by decide +kernel
theorem dX8_valid_0 : decode cX8_valid 0 = .ok (.aload_n 0, 1) := by decide +kernel
theorem dX8_valid_1 : decode cX8_valid 1 = .ok (.iload_n 1, 1) := by decide +kernel
theorem dX8_valid_2 : decode cX8_valid 2 = .ok (.invokevirtual 124, 3) := by decide +kernel
theorem dX8_valid_5 : decode cX8_valid 5 = .ok (.ifCond .eq 6, 3) := by decide +kernel
theorem dX8_valid_8 : decode cX8_valid 8 = .ok (.bipush (-2), 2) := by decide +kernel
theorem dX8_valid_10 : decode cX8_valid 10 = .ok (.ireturn, 1) := by decide +kernel
theorem dX8_valids_0 : decode cX8_valids 0 = .ok (.aload_n 0, 1) := by decide +kernel
theorem dX8_valids_1 : decode cX8_valids 1 = .ok (.invokevirtual 120, 3) := by decide +kernel
theorem dX8_valids_4 : decode cX8_valids 4 = .ok (.ifCond .eq 16, 3) := by decide +kernel
theorem dX8_valids_20 : decode cX8_valids 20 = .ok (.bipush (-2), 2) := by decide +kernel
theorem dX8_valids_22 : decode cX8_valids 22 = .ok (.ireturn, 1) := by decide +kernel
theorem dX8_value_0 : decode cX8_value 0 = .ok (.aload_n 0, 1) := by decide +kernel
theorem dX8_value_1 : decode cX8_value 1 = .ok (.iload_n 1, 1) := by decide +kernel
theorem dX8_value_2 : decode cX8_value 2 = .ok (.invokevirtual 124, 3) := by decide +kernel
theorem dX8_value_5 : decode cX8_value 5 = .ok (.ifCond .ne 11, 3) := by decide +kernel
theorem dX8_value_16 : decode cX8_value 16 = .ok (.bipush (-2), 2) := by decide +kernel
theorem dX8_value_18 : decode cX8_value 18 = .ok (.ireturn, 1) := by decide +kernel
theorem dX8_weight_0 : decode cX8_weight 0 = .ok (.aload_n 0, 1) := by decide +kernel
theorem dX8_weight_1 : decode cX8_weight 1 = .ok (.iload_n 1, 1) := by decide +kernel
theorem dX8_weight_2 : decode cX8_weight 2 = .ok (.invokevirtual 124, 3) := by decide +kernel
theorem dX8_weight_5 : decode cX8_weight 5 = .ok (.ifCond .eq 6, 3) := by decide +kernel
theorem dX8_weight_8 : decode cX8_weight 8 = .ok (.bipush (-2), 2) := by decide +kernel
theorem dX8_weight_10 : decode cX8_weight 10 = .ok (.ireturn, 1) := by decide +kernel
theorem dX8_which_0 : decode cX8_which 0 = .ok (.aload_n 0, 1) := by decide +kernel
theorem dX8_which_1 : decode cX8_which 1 = .ok (.iload_n 1, 1) := by decide +kernel
theorem dX8_which_2 : decode cX8_which 2 = .ok (.invokevirtual 254, 3) := by decide +kernel
theorem dX8_which_5 : decode cX8_which 5 = .ok (.istore_n 2, 1) := by decide +kernel
theorem dX8_which_6 : decode cX8_which 6 = .ok (.iload_n 2, 1) := by decide +kernel
theorem dX8_which_7 : decode cX8_which 7 = .ok (.ifCond .eq 5, 3) := by decide +kernel
theorem dX8_which_10 : decode cX8_which 10 = .ok (.iload_n 2, 1) := by decide +kernel
theorem dX8_which_11 : decode cX8_which 11 = .ok (.ireturn, 1) := by decide +kernel
theorem dX8_works_0 : decode cX8_works 0 = .ok (.aload_n 0, 1) := by decide +kernel
theorem dX8_works_1 : decode cX8_works 1 = .ok (.iload_n 1, 1) := by decide +kernel
theorem dX8_works_2 : decode cX8_works 2 = .ok (.invokevirtual 114, 3) := by decide +kernel
theorem dX8_works_5 : decode cX8_works 5 = .ok (.ifCond .eq 8, 3) := by decide +kernel
theorem dX8_works_8 : decode cX8_works 8 = .ok (.bipush (-2), 2) := by decide +kernel
theorem dX8_works_10 : decode cX8_works 10 = .ok (.goto 11, 3) := by decide +kernel
theorem dX8_works_21 : decode cX8_works 21 = .ok (.ireturn, 1) := by decide +kernel
theorem dX8_worst_0 : decode cX8_worst 0 = .ok (.aload_n 0, 1) := by decide +kernel
theorem dX8_worst_1 : decode cX8_worst 1 = .ok (.iload_n 1, 1) := by decide +kernel
theorem dX8_worst_2 : decode cX8_worst 2 = .ok (.invokevirtual 196, 3) := by decide +kernel
theorem dX8_worst_5 : decode cX8_worst 5 = .ok (.ifCond .eq 6, 3) := by decide +kernel
theorem dX8_worst_8 : decode cX8_worst 8 = .ok (.bipush (-2), 2) := by decide +kernel
theorem dX8_worst_10 : decode cX8_worst 10 = .ok (.ireturn, 1) := by decide +kernel
theorem dX8_worth_0 : decode cX8_worth 0 = .ok (.aload_n 0, 1) := by decide +kernel
theorem dX8_worth_1 : decode cX8_worth 1 = .ok (.invokevirtual 120, 3) := by decide +kernel
theorem dX8_worth_4 : decode cX8_worth 4 = .ok (.ifCond .eq 20, 3) := by decide +kernel
theorem dX8_worth_24 : decode cX8_worth 24 = .ok (.bipush (-2), 2) := by decide +kernel
theorem dX8_worth_26 : decode cX8_worth 26 = .ok (.ireturn, 1) := by decide +kernel
set_option maxRecDepth 20000 in
theorem ggX8_all_X8_noDepth : GoodIn wsX8_all wsX8_noDepth := goodIn_r _ [6, 7, 8, 9, 5, 10, 11, 12, 62, 63, 64, 65, 66, 67, 68, 69, 70, 71, 72, 73, 74, 75, 76, 77, 78, 79, 80, 81, 82, 83, 84, 85, 86] (by decide +kernel) (by decide +kernel)
set_option maxRecDepth 20000 in
theorem gX8_all_X8_noDepth : GoodIn wsX8_all (wsV RX8 196 RX8 yX8_noDepth wsX8_noDepth) := goodIn_app (goodIn_of _ (by decide +kernel)) ggX8_all_X8_noDepth
set_option maxRecDepth 20000 in
theorem ggX8_alone_X8_noRule : GoodIn wsX8_alone wsX8_noRule := goodIn_r _ [6, 7, 8, 85, 86, 87, 88, 89, 90, 91, 92, 93, 94, 95, 96, 97, 98, 99, 100, 101, 102, 103, 104, 105, 106, 107, 108, 109] (by decide +kernel) (by decide +kernel)
set_option maxRecDepth 20000 in
theorem gX8_alone_X8_noRule : GoodIn wsX8_alone (wsV RX8 108 RX8 yX8_noRule wsX8_noRule) := goodIn_app (goodIn_of _ (by decide +kernel)) ggX8_alone_X8_noRule
set_option maxRecDepth 20000 in
theorem ggX8_anew_X8_isTold : GoodIn wsX8_anew wsX8_isTold := goodIn_r _ [8, 1, 9, 68, 69, 70, 71, 72, 73, 74, 75, 76, 77, 78, 79, 80, 81, 82, 83, 84, 85, 86, 87, 88, 89, 90, 91, 92] (by decide +kernel) (by decide +kernel)
set_option maxRecDepth 20000 in
theorem gX8_anew_X8_isTold : GoodIn wsX8_anew (wsV RX8 120 RX8 yX8_isTold wsX8_isTold) := goodIn_app (goodIn_of _ (by decide +kernel)) ggX8_anew_X8_isTold
set_option maxRecDepth 20000 in
theorem ggX8_asked_X8_noState : GoodIn wsX8_asked wsX8_noState := goodIn_r _ [9, 10, 11, 47, 48, 49, 50, 51, 52, 53, 54, 55, 56, 72, 73, 74, 75, 76, 77, 78, 79] (by decide +kernel) (by decide +kernel)
set_option maxRecDepth 20000 in
theorem gX8_asked_X8_noState : GoodIn wsX8_asked (wsV RX8 124 RX8 yX8_noState wsX8_noState) := goodIn_app (goodIn_of _ (by decide +kernel)) ggX8_asked_X8_noState
set_option maxRecDepth 20000 in
theorem ggX8_bad_X8_noState : GoodIn wsX8_bad wsX8_noState := goodIn_r _ [6, 7, 8, 64, 65, 66, 67, 68, 69, 70, 71, 72, 73, 74, 75, 76, 77, 78, 79, 80, 81] (by decide +kernel) (by decide +kernel)
set_option maxRecDepth 20000 in
theorem gX8_bad_X8_noState : GoodIn wsX8_bad (wsV RX8 124 RX8 yX8_noState wsX8_noState) := goodIn_app (goodIn_of _ (by decide +kernel)) ggX8_bad_X8_noState
set_option maxRecDepth 20000 in
theorem ggX8_bare_X8_noDepth : GoodIn wsX8_bare wsX8_noDepth := goodIn_r _ [8, 9, 10, 11, 7, 12, 13, 14, 60, 61, 62, 63, 64, 65, 66, 67, 68, 69, 78, 79, 80, 81, 82, 83, 84, 85, 86, 87, 88, 89, 90, 91, 92] (by decide +kernel) (by decide +kernel)
set_option maxRecDepth 20000 in
theorem gX8_bare_X8_noDepth : GoodIn wsX8_bare (wsV RX8 196 RX8 yX8_noDepth wsX8_noDepth) := goodIn_app (goodIn_of _ (by decide +kernel)) ggX8_bare_X8_noDepth
set_option maxRecDepth 20000 in
theorem ggX8_blame_X8_isTold : GoodIn wsX8_blame wsX8_isTold := goodIn_r _ [10, 2, 11, 76, 77, 78, 79, 80, 81, 82, 83, 84, 85, 86, 87, 88, 89, 90, 91, 92, 93, 94, 95, 96, 97, 98, 99, 100] (by decide +kernel) (by decide +kernel)
set_option maxRecDepth 20000 in
theorem gX8_blame_X8_isTold : GoodIn wsX8_blame (wsV RX8 120 RX8 yX8_isTold wsX8_isTold) := goodIn_app (goodIn_of _ (by decide +kernel)) ggX8_blame_X8_isTold
set_option maxRecDepth 20000 in
theorem ggX8_bound_X8_isTold : GoodIn wsX8_bound wsX8_isTold := goodIn_r _ [6, 7, 8, 58, 59, 60, 61, 62, 63, 64, 65, 66, 67, 68, 69, 70, 71, 72, 73, 74, 75, 76, 77, 78, 79, 80, 81, 82] (by decide +kernel) (by decide +kernel)
set_option maxRecDepth 20000 in
theorem gX8_bound_X8_isTold : GoodIn wsX8_bound (wsV RX8 120 RX8 yX8_isTold wsX8_isTold) := goodIn_app (goodIn_of _ (by decide +kernel)) ggX8_bound_X8_isTold
set_option maxRecDepth 20000 in
theorem ggX8_breaks_X8_noState : GoodIn wsX8_breaks wsX8_noState := goodIn_r _ [6, 7, 8, 28, 29, 30, 31, 32, 33, 34, 35, 36, 37, 38, 39, 40, 41, 42, 43, 44, 45] (by decide +kernel) (by decide +kernel)
set_option maxRecDepth 20000 in
theorem gX8_breaks_X8_noState : GoodIn wsX8_breaks (wsV RX8 124 RX8 yX8_noState wsX8_noState) := goodIn_app (goodIn_of _ (by decide +kernel)) ggX8_breaks_X8_noState
set_option maxRecDepth 20000 in
theorem ggX8_by_X8_isTold : GoodIn wsX8_by wsX8_isTold := goodIn_r _ [6, 7, 8, 88, 89, 90, 91, 92, 93, 94, 95, 96, 97, 98, 99, 100, 101, 102, 103, 104, 105, 106, 107, 108, 109, 110, 111, 112] (by decide +kernel) (by decide +kernel)
set_option maxRecDepth 20000 in
theorem gX8_by_X8_isTold : GoodIn wsX8_by (wsV RX8 120 RX8 yX8_isTold wsX8_isTold) := goodIn_app (goodIn_of _ (by decide +kernel)) ggX8_by_X8_isTold
set_option maxRecDepth 20000 in
theorem ggX8_calm_X8_noState : GoodIn wsX8_calm wsX8_noState := goodIn_r _ [6, 7, 8, 55, 56, 57, 58, 59, 60, 61, 62, 63, 64, 65, 66, 67, 68, 69, 70, 71, 72] (by decide +kernel) (by decide +kernel)
set_option maxRecDepth 20000 in
theorem gX8_calm_X8_noState : GoodIn wsX8_calm (wsV RX8 124 RX8 yX8_noState wsX8_noState) := goodIn_app (goodIn_of _ (by decide +kernel)) ggX8_calm_X8_noState
set_option maxRecDepth 20000 in
theorem ggX8_cell_X8_noCell : GoodIn wsX8_cell wsX8_noCell := goodIn_r _ [7, 1, 8, 9, 10, 11, 12, 13, 14, 15, 16, 17, 18, 19, 20, 21, 22, 23, 24, 25, 26, 27, 28, 29, 30, 31, 32, 33] (by decide +kernel) (by decide +kernel)
set_option maxRecDepth 20000 in
theorem gX8_cell_X8_noCell : GoodIn wsX8_cell (wsV RX8 100 RX8 yX8_noCell wsX8_noCell) := goodIn_app (goodIn_of _ (by decide +kernel)) ggX8_cell_X8_noCell
set_option maxRecDepth 20000 in
theorem ggX8_chance_X8_isTold : GoodIn wsX8_chance wsX8_isTold := goodIn_r _ [7, 8, 9, 104, 105, 106, 107, 108, 109, 110, 111, 112, 113, 114, 115, 116, 117, 118, 119, 120, 121, 122, 123, 124, 125, 126, 127, 128] (by decide +kernel) (by decide +kernel)
set_option maxRecDepth 20000 in
theorem gX8_chance_X8_isTold : GoodIn wsX8_chance (wsV RX8 120 RX8 yX8_isTold wsX8_isTold) := goodIn_app (goodIn_of _ (by decide +kernel)) ggX8_chance_X8_isTold
set_option maxRecDepth 20000 in
theorem ggX8_clashes_X8_noOp : GoodIn wsX8_clashes wsX8_noOp := goodIn_r _ [6, 7, 8, 38, 39, 40, 41, 42, 43, 44, 45, 46, 47, 48, 49, 50, 51, 52, 53, 54, 55, 56, 57, 58, 59, 60, 61, 62] (by decide +kernel) (by decide +kernel)
set_option maxRecDepth 20000 in
theorem gX8_clashes_X8_noOp : GoodIn wsX8_clashes (wsV RX8 114 RX8 yX8_noOp wsX8_noOp) := goodIn_app (goodIn_of _ (by decide +kernel)) ggX8_clashes_X8_noOp
set_option maxRecDepth 20000 in
theorem ggX8_commute_X8_noOp : GoodIn wsX8_commute wsX8_noOp := goodIn_r _ [6, 7, 8, 26, 27, 28, 29, 30, 31, 32, 33, 34, 35, 36, 37, 38, 39, 40, 41, 42, 43, 44, 45, 46, 47, 48, 49, 50] (by decide +kernel) (by decide +kernel)
set_option maxRecDepth 20000 in
theorem gX8_commute_X8_noOp : GoodIn wsX8_commute (wsV RX8 114 RX8 yX8_noOp wsX8_noOp) := goodIn_app (goodIn_of _ (by decide +kernel)) ggX8_commute_X8_noOp
set_option maxRecDepth 20000 in
theorem ggX8_culprit_X8_noDepth : GoodIn wsX8_culprit wsX8_noDepth := goodIn_r _ [7, 8, 9, 10, 6, 11, 12, 13, 93, 94, 95, 96, 97, 98, 99, 100, 101, 102, 115, 116, 117, 118, 119, 120, 121, 122, 123, 124, 125, 126, 127, 128, 129] (by decide +kernel) (by decide +kernel)
set_option maxRecDepth 20000 in
theorem gX8_culprit_X8_noDepth : GoodIn wsX8_culprit (wsV RX8 196 RX8 yX8_noDepth wsX8_noDepth) := goodIn_app (goodIn_of _ (by decide +kernel)) ggX8_culprit_X8_noDepth
set_option maxRecDepth 20000 in
theorem ggX8_cure_X8_isTold : GoodIn wsX8_cure wsX8_isTold := goodIn_r _ [8, 2, 9, 91, 92, 93, 94, 95, 96, 97, 98, 99, 100, 101, 102, 103, 104, 105, 106, 107, 108, 109, 110, 111, 112, 113, 114, 115] (by decide +kernel) (by decide +kernel)
set_option maxRecDepth 20000 in
theorem gX8_cure_X8_isTold : GoodIn wsX8_cure (wsV RX8 120 RX8 yX8_isTold wsX8_isTold) := goodIn_app (goodIn_of _ (by decide +kernel)) ggX8_cure_X8_isTold
set_option maxRecDepth 20000 in
theorem ggX8_dead_X8_isTold : GoodIn wsX8_dead wsX8_isTold := goodIn_r _ [8, 9, 10, 29, 30, 31, 32, 33, 34, 35, 36, 37, 38, 47, 48, 49, 50, 51, 52, 53, 54, 55, 56, 57, 58, 59, 60, 61] (by decide +kernel) (by decide +kernel)
set_option maxRecDepth 20000 in
theorem gX8_dead_X8_isTold : GoodIn wsX8_dead (wsV RX8 120 RX8 yX8_isTold wsX8_isTold) := goodIn_app (goodIn_of _ (by decide +kernel)) ggX8_dead_X8_isTold
set_option maxRecDepth 20000 in
theorem ggX8_does_X8_noOp : GoodIn wsX8_does wsX8_noOp := goodIn_r _ [6, 7, 8, 23, 24, 25, 26, 27, 28, 29, 30, 31, 32, 33, 34, 35, 36, 37, 38, 39, 40, 41, 42, 43, 44, 45, 46, 47] (by decide +kernel) (by decide +kernel)
set_option maxRecDepth 20000 in
theorem gX8_does_X8_noOp : GoodIn wsX8_does (wsV RX8 114 RX8 yX8_noOp wsX8_noOp) := goodIn_app (goodIn_of _ (by decide +kernel)) ggX8_does_X8_noOp
set_option maxRecDepth 20000 in
theorem ggX8_drawn_X8_isTold : GoodIn wsX8_drawn wsX8_isTold := goodIn_r _ [11, 4, 12, 89, 90, 91, 92, 93, 94, 95, 96, 97, 98, 99, 100, 101, 102, 103, 104, 105, 106, 107, 108, 109, 110, 111, 112, 113] (by decide +kernel) (by decide +kernel)
set_option maxRecDepth 20000 in
theorem gX8_drawn_X8_isTold : GoodIn wsX8_drawn (wsV RX8 120 RX8 yX8_isTold wsX8_isTold) := goodIn_app (goodIn_of _ (by decide +kernel)) ggX8_drawn_X8_isTold
set_option maxRecDepth 20000 in
theorem ggX8_dropped_X8_isTold : GoodIn wsX8_dropped wsX8_isTold := goodIn_r _ [7, 1, 8, 9, 10, 11, 12, 13, 14, 15, 16, 17, 18, 19, 20, 21, 22, 23, 24, 25, 26, 27, 28, 29, 30, 31, 32, 33] (by decide +kernel) (by decide +kernel)
set_option maxRecDepth 20000 in
theorem gX8_dropped_X8_isTold : GoodIn wsX8_dropped (wsV RX8 120 RX8 yX8_isTold wsX8_isTold) := goodIn_app (goodIn_of _ (by decide +kernel)) ggX8_dropped_X8_isTold
set_option maxRecDepth 20000 in
theorem ggX8_drops_X8_noRule : GoodIn wsX8_drops wsX8_noRule := goodIn_r _ [8, 1, 9, 115, 116, 117, 118, 119, 120, 121, 122, 123, 124, 125, 126, 127, 128, 129, 130, 131, 132, 133, 134, 135, 136, 137, 138, 139] (by decide +kernel) (by decide +kernel)
set_option maxRecDepth 20000 in
theorem gX8_drops_X8_noRule : GoodIn wsX8_drops (wsV RX8 108 RX8 yX8_noRule wsX8_noRule) := goodIn_app (goodIn_of _ (by decide +kernel)) ggX8_drops_X8_noRule
set_option maxRecDepth 20000 in
theorem ggX8_even_X8_noState : GoodIn wsX8_even wsX8_noState := goodIn_r _ [6, 7, 8, 23, 24, 25, 26, 27, 28, 29, 30, 31, 32, 33, 34, 35, 36, 37, 38, 39, 40] (by decide +kernel) (by decide +kernel)
set_option maxRecDepth 20000 in
theorem gX8_even_X8_noState : GoodIn wsX8_even (wsV RX8 124 RX8 yX8_noState wsX8_noState) := goodIn_app (goodIn_of _ (by decide +kernel)) ggX8_even_X8_noState
set_option maxRecDepth 20000 in
theorem ggX8_far_X8_noState : GoodIn wsX8_far wsX8_noState := goodIn_r _ [6, 7, 8, 32, 33, 34, 35, 36, 37, 38, 39, 40, 41, 42, 43, 44, 45, 46, 47, 48, 49] (by decide +kernel) (by decide +kernel)
set_option maxRecDepth 20000 in
theorem gX8_far_X8_noState : GoodIn wsX8_far (wsV RX8 124 RX8 yX8_noState wsX8_noState) := goodIn_app (goodIn_of _ (by decide +kernel)) ggX8_far_X8_noState
set_option maxRecDepth 20000 in
theorem ggX8_fewest_X8_noDepth : GoodIn wsX8_fewest wsX8_noDepth := goodIn_r _ [6, 7, 8, 9, 5, 10, 11, 12, 67, 68, 69, 70, 71, 72, 73, 74, 75, 76, 77, 78, 79, 80, 81, 82, 83, 84, 85, 86, 87, 88, 89, 90, 91] (by decide +kernel) (by decide +kernel)
set_option maxRecDepth 20000 in
theorem gX8_fewest_X8_noDepth : GoodIn wsX8_fewest (wsV RX8 196 RX8 yX8_noDepth wsX8_noDepth) := goodIn_app (goodIn_of _ (by decide +kernel)) ggX8_fewest_X8_noDepth
set_option maxRecDepth 20000 in
theorem ggX8_fine_X8_noDepth : GoodIn wsX8_fine wsX8_noDepth := goodIn_r _ [8, 9, 10, 11, 7, 12, 1, 13, 81, 82, 83, 84, 85, 86, 87, 88, 89, 90, 91, 92, 93, 94, 95, 96, 97, 98, 99, 100, 101, 102, 103, 104, 105] (by decide +kernel) (by decide +kernel)
set_option maxRecDepth 20000 in
theorem gX8_fine_X8_noDepth : GoodIn wsX8_fine (wsV RX8 196 RX8 yX8_noDepth wsX8_noDepth) := goodIn_app (goodIn_of _ (by decide +kernel)) ggX8_fine_X8_noDepth
set_option maxRecDepth 20000 in
theorem ggX8_fits_X8_refusalOfRow : GoodIn wsX8_fits wsX8_refusalOfRow := goodIn_r _ [9, 2, 10, 11, 12, 13, 14, 15, 16, 17, 8, 18, 3, 19, 20, 21, 22, 23, 81, 82, 83, 84, 85, 86, 87, 88, 89, 90, 106, 107, 108, 109, 110, 111, 112, 113, 114, 115, 116, 117, 91, 92, 93, 94, 95, 96, 97, 98, 99, 100, 101, 102, 103, 104, 105] (by decide +kernel) (by decide +kernel)
set_option maxRecDepth 20000 in
theorem gX8_fits_X8_refusalOfRow : GoodIn wsX8_fits (wsV RX8 254 RX8 yX8_refusalOfRow wsX8_refusalOfRow) := goodIn_app (goodIn_of _ (by decide +kernel)) ggX8_fits_X8_refusalOfRow
set_option maxRecDepth 20000 in
theorem ggX8_freely_X8_noState : GoodIn wsX8_freely wsX8_noState := goodIn_r _ [8, 9, 10, 46, 47, 48, 49, 50, 51, 52, 53, 54, 55, 71, 72, 73, 74, 75, 76, 77, 78] (by decide +kernel) (by decide +kernel)
set_option maxRecDepth 20000 in
theorem gX8_freely_X8_noState : GoodIn wsX8_freely (wsV RX8 124 RX8 yX8_noState wsX8_noState) := goodIn_app (goodIn_of _ (by decide +kernel)) ggX8_freely_X8_noState
set_option maxRecDepth 20000 in
theorem ggX8_frees_X8_noOp : GoodIn wsX8_frees wsX8_noOp := goodIn_r _ [10, 1, 11, 115, 116, 117, 118, 119, 120, 121, 122, 123, 124, 125, 126, 127, 128, 129, 130, 131, 132, 133, 134, 135, 136, 137, 138, 139] (by decide +kernel) (by decide +kernel)
set_option maxRecDepth 20000 in
theorem gX8_frees_X8_noOp : GoodIn wsX8_frees (wsV RX8 114 RX8 yX8_noOp wsX8_noOp) := goodIn_app (goodIn_of _ (by decide +kernel)) ggX8_frees_X8_noOp
set_option maxRecDepth 20000 in
theorem ggX8_gets_X8_noGame : GoodIn wsX8_gets wsX8_noGame := goodIn_r _ [7, 8, 9, 10, 6, 11, 12, 13, 90, 91, 92, 93, 94, 95, 96, 97, 98, 99, 100, 101, 102, 103, 104, 105, 106, 107, 108, 109, 110, 111, 112, 113, 114] (by decide +kernel) (by decide +kernel)
set_option maxRecDepth 20000 in
theorem gX8_gets_X8_noGame : GoodIn wsX8_gets (wsV RX8 275 RX8 yX8_noGame wsX8_noGame) := goodIn_app (goodIn_of _ (by decide +kernel)) ggX8_gets_X8_noGame
set_option maxRecDepth 20000 in
theorem ggX8_hard_X8_isTold : GoodIn wsX8_hard wsX8_isTold := goodIn_r _ [9, 1, 10, 18, 19, 20, 21, 22, 23, 24, 25, 26, 27, 28, 29, 30, 31, 32, 33, 34, 35, 36, 37, 38, 39, 40, 41, 42] (by decide +kernel) (by decide +kernel)
set_option maxRecDepth 20000 in
theorem gX8_hard_X8_isTold : GoodIn wsX8_hard (wsV RX8 120 RX8 yX8_isTold wsX8_isTold) := goodIn_app (goodIn_of _ (by decide +kernel)) ggX8_hard_X8_isTold
set_option maxRecDepth 20000 in
theorem ggX8_hits_X8_noRule : GoodIn wsX8_hits wsX8_noRule := goodIn_r _ [7, 8, 9, 93, 94, 95, 96, 97, 98, 99, 100, 101, 102, 115, 116, 117, 118, 119, 120, 121, 122, 123, 124, 125, 126, 127, 128, 129] (by decide +kernel) (by decide +kernel)
set_option maxRecDepth 20000 in
theorem gX8_hits_X8_noRule : GoodIn wsX8_hits (wsV RX8 108 RX8 yX8_noRule wsX8_noRule) := goodIn_app (goodIn_of _ (by decide +kernel)) ggX8_hits_X8_noRule
set_option maxRecDepth 20000 in
theorem ggX8_holds_X8_noRule : GoodIn wsX8_holds wsX8_noRule := goodIn_r _ [6, 7, 8, 20, 21, 22, 23, 24, 25, 26, 27, 28, 29, 30, 31, 32, 33, 34, 35, 36, 37, 38, 39, 40, 41, 42, 43, 44] (by decide +kernel) (by decide +kernel)
set_option maxRecDepth 20000 in
theorem gX8_holds_X8_noRule : GoodIn wsX8_holds (wsV RX8 108 RX8 yX8_noRule wsX8_noRule) := goodIn_app (goodIn_of _ (by decide +kernel)) ggX8_holds_X8_noRule
set_option maxRecDepth 20000 in
theorem ggX8_hot_X8_noDepth : GoodIn wsX8_hot wsX8_noDepth := goodIn_r _ [8, 9, 10, 11, 7, 12, 13, 14, 60, 61, 62, 63, 64, 65, 66, 67, 68, 69, 78, 79, 80, 81, 82, 83, 84, 85, 86, 87, 88, 89, 90, 91, 92] (by decide +kernel) (by decide +kernel)
set_option maxRecDepth 20000 in
theorem gX8_hot_X8_noDepth : GoodIn wsX8_hot (wsV RX8 196 RX8 yX8_noDepth wsX8_noDepth) := goodIn_app (goodIn_of _ (by decide +kernel)) ggX8_hot_X8_noDepth
set_option maxRecDepth 20000 in
theorem ggX8_known_X8_noRule : GoodIn wsX8_known wsX8_noRule := goodIn_r _ [8, 1, 9, 15, 16, 17, 18, 19, 20, 21, 22, 23, 24, 25, 26, 27, 28, 29, 30, 31, 32, 33, 34, 35, 36, 37, 38, 39] (by decide +kernel) (by decide +kernel)
set_option maxRecDepth 20000 in
theorem gX8_known_X8_noRule : GoodIn wsX8_known (wsV RX8 108 RX8 yX8_noRule wsX8_noRule) := goodIn_app (goodIn_of _ (by decide +kernel)) ggX8_known_X8_noRule
set_option maxRecDepth 20000 in
theorem ggX8_law_X8_isTold : GoodIn wsX8_law wsX8_isTold := goodIn_r _ [6, 7, 8, 88, 89, 90, 91, 92, 93, 94, 95, 96, 97, 98, 99, 100, 101, 102, 103, 104, 105, 106, 107, 108, 109, 110, 111, 112] (by decide +kernel) (by decide +kernel)
set_option maxRecDepth 20000 in
theorem gX8_law_X8_isTold : GoodIn wsX8_law (wsV RX8 120 RX8 yX8_isTold wsX8_isTold) := goodIn_app (goodIn_of _ (by decide +kernel)) ggX8_law_X8_isTold
set_option maxRecDepth 20000 in
theorem ggX8_laws_X8_refusalOfRow : GoodIn wsX8_laws wsX8_refusalOfRow := goodIn_r _ [7, 2, 8, 9, 10, 11, 12, 13, 14, 15, 6, 16, 17, 18, 19, 20, 21, 22, 73, 74, 75, 76, 77, 78, 79, 80, 81, 82, 83, 84, 85, 86, 87, 88, 89, 90, 91, 92, 93, 94, 95, 96, 97, 98, 99, 100, 101, 102, 103, 104, 105, 106, 107, 108, 109] (by decide +kernel) (by decide +kernel)
set_option maxRecDepth 20000 in
theorem gX8_laws_X8_refusalOfRow : GoodIn wsX8_laws (wsV RX8 254 RX8 yX8_refusalOfRow wsX8_refusalOfRow) := goodIn_app (goodIn_of _ (by decide +kernel)) ggX8_laws_X8_refusalOfRow
set_option maxRecDepth 20000 in
theorem ggX8_least_X8_noDepth : GoodIn wsX8_least wsX8_noDepth := goodIn_r _ [7, 8, 9, 10, 6, 11, 12, 13, 77, 78, 79, 80, 81, 82, 83, 84, 85, 86, 99, 100, 101, 102, 103, 104, 105, 106, 107, 108, 109, 110, 111, 112, 113] (by decide +kernel) (by decide +kernel)
set_option maxRecDepth 20000 in
theorem gX8_least_X8_noDepth : GoodIn wsX8_least (wsV RX8 196 RX8 yX8_noDepth wsX8_noDepth) := goodIn_app (goodIn_of _ (by decide +kernel)) ggX8_least_X8_noDepth
set_option maxRecDepth 20000 in
theorem ggX8_lock_X8_noOp : GoodIn wsX8_lock wsX8_noOp := goodIn_r _ [8, 1, 9, 115, 116, 117, 118, 119, 120, 121, 122, 123, 124, 125, 126, 127, 128, 129, 130, 131, 132, 133, 134, 135, 136, 137, 138, 139] (by decide +kernel) (by decide +kernel)
set_option maxRecDepth 20000 in
theorem gX8_lock_X8_noOp : GoodIn wsX8_lock (wsV RX8 114 RX8 yX8_noOp wsX8_noOp) := goodIn_app (goodIn_of _ (by decide +kernel)) ggX8_lock_X8_noOp
set_option maxRecDepth 20000 in
theorem ggX8_locked_X8_isTold : GoodIn wsX8_locked wsX8_isTold := goodIn_r _ [7, 1, 8, 9, 10, 11, 12, 13, 14, 15, 16, 17, 18, 19, 20, 21, 22, 23, 24, 25, 26, 27, 28, 29, 30, 31, 32, 33] (by decide +kernel) (by decide +kernel)
set_option maxRecDepth 20000 in
theorem gX8_locked_X8_isTold : GoodIn wsX8_locked (wsV RX8 120 RX8 yX8_isTold wsX8_isTold) := goodIn_app (goodIn_of _ (by decide +kernel)) ggX8_locked_X8_isTold
set_option maxRecDepth 20000 in
theorem ggX8_locks_X8_noDepth : GoodIn wsX8_locks wsX8_noDepth := goodIn_r _ [6, 7, 8, 9, 5, 10, 11, 12, 66, 67, 68, 69, 70, 71, 72, 73, 74, 75, 76, 77, 78, 79, 80, 81, 82, 83, 84, 85, 86, 87, 88, 89, 90] (by decide +kernel) (by decide +kernel)
set_option maxRecDepth 20000 in
theorem gX8_locks_X8_noDepth : GoodIn wsX8_locks (wsV RX8 196 RX8 yX8_noDepth wsX8_noDepth) := goodIn_app (goodIn_of _ (by decide +kernel)) ggX8_locks_X8_noDepth
set_option maxRecDepth 20000 in
theorem ggX8_luck_X8_isTold : GoodIn wsX8_luck wsX8_isTold := goodIn_r _ [10, 3, 11, 88, 89, 90, 91, 92, 93, 94, 95, 96, 97, 98, 99, 100, 101, 102, 103, 104, 105, 106, 107, 108, 109, 110, 111, 112] (by decide +kernel) (by decide +kernel)
set_option maxRecDepth 20000 in
theorem gX8_luck_X8_isTold : GoodIn wsX8_luck (wsV RX8 120 RX8 yX8_isTold wsX8_isTold) := goodIn_app (goodIn_of _ (by decide +kernel)) ggX8_luck_X8_isTold
set_option maxRecDepth 20000 in
theorem ggX8_mean_X8_isTold : GoodIn wsX8_mean wsX8_isTold := goodIn_r _ [7, 8, 9, 67, 68, 69, 70, 71, 72, 73, 74, 75, 76, 77, 78, 79, 80, 81, 82, 83, 84, 85, 86, 87, 88, 89, 90, 91] (by decide +kernel) (by decide +kernel)
set_option maxRecDepth 20000 in
theorem gX8_mean_X8_isTold : GoodIn wsX8_mean (wsV RX8 120 RX8 yX8_isTold wsX8_isTold) := goodIn_app (goodIn_of _ (by decide +kernel)) ggX8_mean_X8_isTold
set_option maxRecDepth 20000 in
theorem ggX8_merge_X8_noState : GoodIn wsX8_merge wsX8_noState := goodIn_r _ [6, 7, 8, 23, 24, 25, 26, 27, 28, 29, 30, 31, 32, 33, 34, 35, 36, 37, 38, 39, 40] (by decide +kernel) (by decide +kernel)
set_option maxRecDepth 20000 in
theorem gX8_merge_X8_noState : GoodIn wsX8_merge (wsV RX8 124 RX8 yX8_noState wsX8_noState) := goodIn_app (goodIn_of _ (by decide +kernel)) ggX8_merge_X8_noState
set_option maxRecDepth 20000 in
theorem ggX8_nearest_X8_noState : GoodIn wsX8_nearest wsX8_noState := goodIn_r _ [8, 1, 2, 26, 27, 28, 29, 30, 31, 32, 33, 34, 35, 36, 37, 38, 39, 40, 41, 42, 43] (by decide +kernel) (by decide +kernel)
set_option maxRecDepth 20000 in
theorem gX8_nearest_X8_noState : GoodIn wsX8_nearest (wsV RX8 124 RX8 yX8_noState wsX8_noState) := goodIn_app (goodIn_of _ (by decide +kernel)) ggX8_nearest_X8_noState
set_option maxRecDepth 20000 in
theorem ggX8_needed_X8_noDepth : GoodIn wsX8_needed wsX8_noDepth := goodIn_r _ [6, 7, 8, 9, 5, 10, 11, 12, 59, 60, 61, 62, 63, 64, 65, 66, 67, 68, 69, 70, 71, 72, 73, 74, 75, 76, 77, 78, 79, 80, 81, 82, 83] (by decide +kernel) (by decide +kernel)
set_option maxRecDepth 20000 in
theorem gX8_needed_X8_noDepth : GoodIn wsX8_needed (wsV RX8 196 RX8 yX8_noDepth wsX8_noDepth) := goodIn_app (goodIn_of _ (by decide +kernel)) ggX8_needed_X8_noDepth
set_option maxRecDepth 20000 in
theorem ggX8_op_X8_noOp : GoodIn wsX8_op wsX8_noOp := goodIn_r _ [7, 1, 8, 9, 10, 11, 12, 13, 14, 15, 16, 17, 18, 19, 20, 21, 22, 23, 24, 25, 26, 27, 28, 29, 30, 31, 32, 33] (by decide +kernel) (by decide +kernel)
set_option maxRecDepth 20000 in
theorem gX8_op_X8_noOp : GoodIn wsX8_op (wsV RX8 114 RX8 yX8_noOp wsX8_noOp) := goodIn_app (goodIn_of _ (by decide +kernel)) ggX8_op_X8_noOp
set_option maxRecDepth 20000 in
theorem ggX8_opens_X8_noState : GoodIn wsX8_opens wsX8_noState := goodIn_r _ [6, 7, 8, 23, 24, 25, 26, 27, 28, 29, 30, 31, 32, 33, 34, 35, 36, 37, 38, 39, 40] (by decide +kernel) (by decide +kernel)
set_option maxRecDepth 20000 in
theorem gX8_opens_X8_noState : GoodIn wsX8_opens (wsV RX8 124 RX8 yX8_noState wsX8_noState) := goodIn_app (goodIn_of _ (by decide +kernel)) ggX8_opens_X8_noState
set_option maxRecDepth 20000 in
theorem ggX8_pairs_X8_noDepth : GoodIn wsX8_pairs wsX8_noDepth := goodIn_r _ [6, 7, 8, 9, 5, 10, 11, 12, 63, 64, 65, 66, 67, 68, 69, 70, 71, 72, 73, 74, 75, 76, 77, 78, 79, 80, 81, 82, 83, 84, 85, 86, 87] (by decide +kernel) (by decide +kernel)
set_option maxRecDepth 20000 in
theorem gX8_pairs_X8_noDepth : GoodIn wsX8_pairs (wsV RX8 196 RX8 yX8_noDepth wsX8_noDepth) := goodIn_app (goodIn_of _ (by decide +kernel)) ggX8_pairs_X8_noDepth
set_option maxRecDepth 20000 in
theorem ggX8_rate_X8_noCell : GoodIn wsX8_rate wsX8_noCell := goodIn_r _ [9, 1, 10, 59, 60, 61, 62, 63, 64, 65, 66, 67, 68, 69, 70, 71, 72, 73, 74, 75, 76, 77, 78, 79, 80, 81, 82, 83] (by decide +kernel) (by decide +kernel)
set_option maxRecDepth 20000 in
theorem gX8_rate_X8_noCell : GoodIn wsX8_rate (wsV RX8 100 RX8 yX8_noCell wsX8_noCell) := goodIn_app (goodIn_of _ (by decide +kernel)) ggX8_rate_X8_noCell
set_option maxRecDepth 20000 in
theorem ggX8_reach_X8_noState : GoodIn wsX8_reach wsX8_noState := goodIn_r _ [6, 7, 8, 45, 46, 47, 48, 49, 50, 51, 52, 53, 54, 55, 56, 57, 58, 59, 60, 61, 62] (by decide +kernel) (by decide +kernel)
set_option maxRecDepth 20000 in
theorem gX8_reach_X8_noState : GoodIn wsX8_reach (wsV RX8 124 RX8 yX8_noState wsX8_noState) := goodIn_app (goodIn_of _ (by decide +kernel)) ggX8_reach_X8_noState
set_option maxRecDepth 20000 in
theorem ggX8_refusalOfRow_X8_isTold : GoodIn wsX8_refusalOfRow wsX8_isTold := goodIn_r _ [11, 12, 13, 18, 19, 20, 21, 22, 23, 24, 25, 26, 27, 40, 41, 42, 43, 44, 45, 46, 47, 48, 49, 50, 51, 52, 53, 54] (by decide +kernel) (by decide +kernel)
set_option maxRecDepth 20000 in
theorem gX8_refusalOfRow_X8_isTold : GoodIn wsX8_refusalOfRow (wsV RX8 120 RX8 yX8_isTold wsX8_isTold) := goodIn_app (goodIn_of _ (by decide +kernel)) ggX8_refusalOfRow_X8_isTold
set_option maxRecDepth 20000 in
theorem ggX8_rests_X8_noGame : GoodIn wsX8_rests wsX8_noGame := goodIn_r _ [6, 7, 8, 9, 5, 10, 11, 12, 86, 87, 88, 89, 90, 91, 92, 93, 94, 95, 96, 97, 98, 99, 100, 101, 102, 103, 104, 105, 106, 107, 108, 109, 110] (by decide +kernel) (by decide +kernel)
set_option maxRecDepth 20000 in
theorem gX8_rests_X8_noGame : GoodIn wsX8_rests (wsV RX8 275 RX8 yX8_noGame wsX8_noGame) := goodIn_app (goodIn_of _ (by decide +kernel)) ggX8_rests_X8_noGame
set_option maxRecDepth 20000 in
theorem ggX8_room_X8_noCell : GoodIn wsX8_room wsX8_noCell := goodIn_r _ [8, 9, 10, 23, 24, 25, 26, 27, 28, 29, 30, 31, 32, 41, 42, 43, 44, 45, 46, 47, 48, 49, 50, 51, 52, 53, 54, 55] (by decide +kernel) (by decide +kernel)
set_option maxRecDepth 20000 in
theorem gX8_room_X8_noCell : GoodIn wsX8_room (wsV RX8 100 RX8 yX8_noCell wsX8_noCell) := goodIn_app (goodIn_of _ (by decide +kernel)) ggX8_room_X8_noCell
set_option maxRecDepth 20000 in
theorem ggX8_rule_X8_noRule : GoodIn wsX8_rule wsX8_noRule := goodIn_r _ [7, 1, 8, 9, 10, 11, 12, 13, 14, 15, 16, 17, 18, 19, 20, 21, 22, 23, 24, 25, 26, 27, 28, 29, 30, 31, 32, 33] (by decide +kernel) (by decide +kernel)
set_option maxRecDepth 20000 in
theorem gX8_rule_X8_noRule : GoodIn wsX8_rule (wsV RX8 108 RX8 yX8_noRule wsX8_noRule) := goodIn_app (goodIn_of _ (by decide +kernel)) ggX8_rule_X8_noRule
set_option maxRecDepth 20000 in
theorem ggX8_safe_X8_noDepth : GoodIn wsX8_safe wsX8_noDepth := goodIn_r _ [6, 7, 8, 9, 5, 10, 11, 12, 62, 63, 64, 65, 66, 67, 68, 69, 70, 71, 72, 73, 74, 75, 76, 77, 78, 79, 80, 81, 82, 83, 84, 85, 86] (by decide +kernel) (by decide +kernel)
set_option maxRecDepth 20000 in
theorem gX8_safe_X8_noDepth : GoodIn wsX8_safe (wsV RX8 196 RX8 yX8_noDepth wsX8_noDepth) := goodIn_app (goodIn_of _ (by decide +kernel)) ggX8_safe_X8_noDepth
set_option maxRecDepth 20000 in
theorem ggX8_share_X8_noRule : GoodIn wsX8_share wsX8_noRule := goodIn_r _ [7, 8, 9, 105, 106, 107, 108, 109, 110, 111, 112, 113, 114, 115, 116, 117, 118, 119, 120, 121, 122, 123, 124, 125, 126, 127, 128, 129] (by decide +kernel) (by decide +kernel)
set_option maxRecDepth 20000 in
theorem gX8_share_X8_noRule : GoodIn wsX8_share (wsV RX8 108 RX8 yX8_noRule wsX8_noRule) := goodIn_app (goodIn_of _ (by decide +kernel)) ggX8_share_X8_noRule
set_option maxRecDepth 20000 in
theorem ggX8_spare_X8_noRule : GoodIn wsX8_spare wsX8_noRule := goodIn_r _ [9, 2, 10, 38, 39, 40, 41, 42, 43, 44, 45, 46, 47, 48, 49, 50, 51, 52, 53, 54, 55, 56, 57, 58, 59, 60, 61, 62] (by decide +kernel) (by decide +kernel)
set_option maxRecDepth 20000 in
theorem gX8_spare_X8_noRule : GoodIn wsX8_spare (wsV RX8 108 RX8 yX8_noRule wsX8_noRule) := goodIn_app (goodIn_of _ (by decide +kernel)) ggX8_spare_X8_noRule
set_option maxRecDepth 20000 in
theorem ggX8_states_X8_isTold : GoodIn wsX8_states wsX8_isTold := goodIn_r _ [7, 8, 9, 10, 11, 12, 13, 14, 15, 16, 17, 18, 19, 28, 29, 30, 31, 32, 33, 34, 35, 36, 37, 38, 39, 40, 41, 42] (by decide +kernel) (by decide +kernel)
set_option maxRecDepth 20000 in
theorem gX8_states_X8_isTold : GoodIn wsX8_states (wsV RX8 120 RX8 yX8_isTold wsX8_isTold) := goodIn_app (goodIn_of _ (by decide +kernel)) ggX8_states_X8_isTold
set_option maxRecDepth 20000 in
theorem ggX8_step_X8_noState : GoodIn wsX8_step wsX8_noState := goodIn_r _ [6, 7, 8, 36, 37, 38, 39, 40, 41, 42, 43, 44, 45, 46, 47, 48, 49, 50, 51, 52, 53] (by decide +kernel) (by decide +kernel)
set_option maxRecDepth 20000 in
theorem gX8_step_X8_noState : GoodIn wsX8_step (wsV RX8 124 RX8 yX8_noState wsX8_noState) := goodIn_app (goodIn_of _ (by decide +kernel)) ggX8_step_X8_noState
set_option maxRecDepth 20000 in
theorem ggX8_table_X8_isTold : GoodIn wsX8_table wsX8_isTold := goodIn_r _ [8, 1, 9, 27, 28, 29, 30, 31, 32, 33, 34, 35, 36, 37, 38, 39, 40, 41, 42, 43, 44, 45, 46, 47, 48, 49, 50, 51] (by decide +kernel) (by decide +kernel)
set_option maxRecDepth 20000 in
theorem gX8_table_X8_isTold : GoodIn wsX8_table (wsV RX8 120 RX8 yX8_isTold wsX8_isTold) := goodIn_app (goodIn_of _ (by decide +kernel)) ggX8_table_X8_isTold
set_option maxRecDepth 20000 in
theorem ggX8_undo_X8_isTold : GoodIn wsX8_undo wsX8_isTold := goodIn_r _ [8, 1, 9, 68, 69, 70, 71, 72, 73, 74, 75, 76, 77, 78, 79, 80, 81, 82, 83, 84, 85, 86, 87, 88, 89, 90, 91, 92] (by decide +kernel) (by decide +kernel)
set_option maxRecDepth 20000 in
theorem gX8_undo_X8_isTold : GoodIn wsX8_undo (wsV RX8 120 RX8 yX8_isTold wsX8_isTold) := goodIn_app (goodIn_of _ (by decide +kernel)) ggX8_undo_X8_isTold
set_option maxRecDepth 20000 in
theorem ggX8_valid_X8_noState : GoodIn wsX8_valid wsX8_noState := goodIn_r _ [6, 7, 8, 15, 16, 17, 18, 19, 20, 21, 22, 23, 24, 25, 26, 27, 28, 29, 30, 31, 32] (by decide +kernel) (by decide +kernel)
set_option maxRecDepth 20000 in
theorem gX8_valid_X8_noState : GoodIn wsX8_valid (wsV RX8 124 RX8 yX8_noState wsX8_noState) := goodIn_app (goodIn_of _ (by decide +kernel)) ggX8_valid_X8_noState
set_option maxRecDepth 20000 in
theorem ggX8_valids_X8_isTold : GoodIn wsX8_valids wsX8_isTold := goodIn_r _ [7, 8, 9, 17, 18, 19, 20, 21, 22, 23, 24, 25, 26, 39, 40, 41, 42, 43, 44, 45, 46, 47, 48, 49, 50, 51, 52, 53] (by decide +kernel) (by decide +kernel)
set_option maxRecDepth 20000 in
theorem gX8_valids_X8_isTold : GoodIn wsX8_valids (wsV RX8 120 RX8 yX8_isTold wsX8_isTold) := goodIn_app (goodIn_of _ (by decide +kernel)) ggX8_valids_X8_isTold
set_option maxRecDepth 20000 in
theorem ggX8_value_X8_noState : GoodIn wsX8_value wsX8_noState := goodIn_r _ [6, 1, 7, 20, 21, 22, 23, 24, 25, 26, 27, 28, 29, 30, 31, 32, 33, 34, 35, 36, 37] (by decide +kernel) (by decide +kernel)
set_option maxRecDepth 20000 in
theorem gX8_value_X8_noState : GoodIn wsX8_value (wsV RX8 124 RX8 yX8_noState wsX8_noState) := goodIn_app (goodIn_of _ (by decide +kernel)) ggX8_value_X8_noState
set_option maxRecDepth 20000 in
theorem ggX8_weight_X8_noState : GoodIn wsX8_weight wsX8_noState := goodIn_r _ [8, 3, 9, 16, 17, 18, 19, 20, 21, 22, 23, 24, 25, 41, 42, 43, 44, 45, 46, 47, 48] (by decide +kernel) (by decide +kernel)
set_option maxRecDepth 20000 in
theorem gX8_weight_X8_noState : GoodIn wsX8_weight (wsV RX8 124 RX8 yX8_noState wsX8_noState) := goodIn_app (goodIn_of _ (by decide +kernel)) ggX8_weight_X8_noState
set_option maxRecDepth 20000 in
theorem ggX8_which_X8_refusalOfRow : GoodIn wsX8_which wsX8_refusalOfRow := goodIn_r _ [11, 2, 12, 13, 14, 5, 6, 15, 16, 17, 10, 18, 3, 19, 20, 21, 22, 23, 74, 75, 76, 77, 78, 79, 80, 81, 82, 83, 107, 108, 109, 110, 99, 100, 101, 102, 103, 104, 105, 106, 84, 85, 86, 87, 88, 89, 90, 91, 92, 93, 94, 95, 96, 97, 98] (by decide +kernel) (by decide +kernel)
set_option maxRecDepth 20000 in
theorem gX8_which_X8_refusalOfRow : GoodIn wsX8_which (wsV RX8 254 RX8 yX8_refusalOfRow wsX8_refusalOfRow) := goodIn_app (goodIn_of _ (by decide +kernel)) ggX8_which_X8_refusalOfRow
set_option maxRecDepth 20000 in
theorem ggX8_works_X8_noOp : GoodIn wsX8_works wsX8_noOp := goodIn_r _ [6, 7, 8, 26, 27, 28, 29, 30, 31, 32, 33, 34, 35, 36, 37, 38, 39, 40, 41, 42, 43, 44, 45, 46, 47, 48, 49, 50] (by decide +kernel) (by decide +kernel)
set_option maxRecDepth 20000 in
theorem gX8_works_X8_noOp : GoodIn wsX8_works (wsV RX8 114 RX8 yX8_noOp wsX8_noOp) := goodIn_app (goodIn_of _ (by decide +kernel)) ggX8_works_X8_noOp
set_option maxRecDepth 20000 in
theorem ggX8_worst_X8_noDepth : GoodIn wsX8_worst wsX8_noDepth := goodIn_r _ [9, 10, 11, 12, 8, 13, 2, 14, 89, 90, 91, 92, 93, 94, 95, 96, 97, 98, 99, 100, 101, 102, 103, 104, 105, 106, 107, 108, 109, 110, 111, 112, 113] (by decide +kernel) (by decide +kernel)
set_option maxRecDepth 20000 in
theorem gX8_worst_X8_noDepth : GoodIn wsX8_worst (wsV RX8 196 RX8 yX8_noDepth wsX8_noDepth) := goodIn_app (goodIn_of _ (by decide +kernel)) ggX8_worst_X8_noDepth
set_option maxRecDepth 20000 in
theorem ggX8_worth_X8_isTold : GoodIn wsX8_worth wsX8_isTold := goodIn_r _ [10, 1, 11, 83, 84, 85, 86, 87, 88, 89, 90, 91, 92, 93, 94, 95, 96, 97, 98, 99, 100, 101, 102, 103, 104, 105, 106, 107] (by decide +kernel) (by decide +kernel)
set_option maxRecDepth 20000 in
theorem gX8_worth_X8_isTold : GoodIn wsX8_worth (wsV RX8 120 RX8 yX8_isTold wsX8_isTold) := goodIn_app (goodIn_of _ (by decide +kernel)) ggX8_worth_X8_isTold
