theorem dX8_all_0 : decode cX8_all 0 = .ok (.aload_n 0, 1) := by decide +kernel
theorem dX8_all_1 : decode cX8_all 1 = .ok (.iload_n 1, 1) := by decide +kernel
theorem dX8_all_2 : decode cX8_all 2 = .ok (.invokevirtual 196, 3) := by decide +kernel
theorem dX8_all_5 : decode cX8_all 5 = .ok (.ifCond .eq 8, 3) := by decide +kernel
theorem dX8_all_8 : decode cX8_all 8 = .ok (.bipush (-2), 2) := by decide +kernel
theorem dX8_all_10 : decode cX8_all 10 = .ok (.goto 11, 3) := by decide +kernel
theorem dX8_all_21 : decode cX8_all 21 = .ok (.ireturn, 1) := by decide +kernel
theorem dX8_alone_0 : decode cX8_alone 0 = .ok (.aload_n 0, 1) := by decide +kernel
theorem dX8_alone_1 : decode cX8_alone 1 = .ok (.iload_n 1, 1) := by decide +kernel
theorem dX8_alone_2 : decode cX8_alone 2 = .ok (.invokevirtual 108, 3) := by decide +kernel
theorem dX8_alone_5 : decode cX8_alone 5 = .ok (.ifCond .ne 11, 3) := by decide +kernel
theorem dX8_alone_16 : decode cX8_alone 16 = .ok (.bipush (-2), 2) := by decide +kernel
theorem dX8_alone_18 : decode cX8_alone 18 = .ok (.ireturn, 1) := by decide +kernel
theorem dX8_anew_0 : decode cX8_anew 0 = .ok (.aload_n 0, 1) := by decide +kernel
theorem dX8_anew_1 : decode cX8_anew 1 = .ok (.invokevirtual 120, 3) := by decide +kernel
theorem dX8_anew_4 : decode cX8_anew 4 = .ok (.ifCond .ne 6, 3) := by decide +kernel
theorem dX8_anew_7 : decode cX8_anew 7 = .ok (.bipush (-2), 2) := by decide +kernel
theorem dX8_anew_9 : decode cX8_anew 9 = .ok (.ireturn, 1) := by decide +kernel
theorem dX8_asked_0 : decode cX8_asked 0 = .ok (.aload_n 0, 1) := by decide +kernel
theorem dX8_asked_1 : decode cX8_asked 1 = .ok (.iload_n 1, 1) := by decide +kernel
theorem dX8_asked_2 : decode cX8_asked 2 = .ok (.invokevirtual 124, 3) := by decide +kernel
theorem dX8_asked_5 : decode cX8_asked 5 = .ok (.ifCond .ne 11, 3) := by decide +kernel
theorem dX8_asked_16 : decode cX8_asked 16 = .ok (.bipush (-2), 2) := by decide +kernel
theorem dX8_asked_18 : decode cX8_asked 18 = .ok (.ireturn, 1) := by decide +kernel
theorem dX8_bad_0 : decode cX8_bad 0 = .ok (.aload_n 0, 1) := by decide +kernel
theorem dX8_bad_1 : decode cX8_bad 1 = .ok (.iload_n 1, 1) := by decide +kernel
theorem dX8_bad_2 : decode cX8_bad 2 = .ok (.invokevirtual 124, 3) := by decide +kernel
theorem dX8_bad_5 : decode cX8_bad 5 = .ok (.ifCond .ne 11, 3) := by decide +kernel
theorem dX8_bad_16 : decode cX8_bad 16 = .ok (.bipush (-2), 2) := by decide +kernel
theorem dX8_bad_18 : decode cX8_bad 18 = .ok (.goto 12, 3) := by decide +kernel
theorem dX8_bad_30 : decode cX8_bad 30 = .ok (.ireturn, 1) := by decide +kernel
theorem dX8_bare_0 : decode cX8_bare 0 = .ok (.aload_n 0, 1) := by decide +kernel
theorem dX8_bare_1 : decode cX8_bare 1 = .ok (.iload_n 1, 1) := by decide +kernel
theorem dX8_bare_2 : decode cX8_bare 2 = .ok (.invokevirtual 196, 3) := by decide +kernel
theorem dX8_bare_5 : decode cX8_bare 5 = .ok (.ifCond .eq 6, 3) := by decide +kernel
theorem dX8_bare_8 : decode cX8_bare 8 = .ok (.bipush (-2), 2) := by decide +kernel
theorem dX8_bare_10 : decode cX8_bare 10 = .ok (.ireturn, 1) := by decide +kernel
theorem dX8_blame_0 : decode cX8_blame 0 = .ok (.aload_n 0, 1) := by decide +kernel
theorem dX8_blame_1 : decode cX8_blame 1 = .ok (.invokevirtual 120, 3) := by decide +kernel
theorem dX8_blame_4 : decode cX8_blame 4 = .ok (.ifCond .ne 6, 3) := by decide +kernel
theorem dX8_blame_7 : decode cX8_blame 7 = .ok (.bipush (-2), 2) := by decide +kernel
theorem dX8_blame_9 : decode cX8_blame 9 = .ok (.ireturn, 1) := by decide +kernel
theorem dX8_bound_0 : decode cX8_bound 0 = .ok (.aload_n 0, 1) := by decide +kernel
theorem dX8_bound_1 : decode cX8_bound 1 = .ok (.invokevirtual 120, 3) := by decide +kernel
theorem dX8_bound_4 : decode cX8_bound 4 = .ok (.ifCond .ne 6, 3) := by decide +kernel
theorem dX8_bound_7 : decode cX8_bound 7 = .ok (.bipush (-2), 2) := by decide +kernel
theorem dX8_bound_9 : decode cX8_bound 9 = .ok (.ireturn, 1) := by decide +kernel
theorem dX8_breaks_0 : decode cX8_breaks 0 = .ok (.aload_n 0, 1) := by decide +kernel
theorem dX8_breaks_1 : decode cX8_breaks 1 = .ok (.iload_n 1, 1) := by decide +kernel
theorem dX8_breaks_2 : decode cX8_breaks 2 = .ok (.invokevirtual 124, 3) := by decide +kernel
theorem dX8_breaks_5 : decode cX8_breaks 5 = .ok (.ifCond .eq 8, 3) := by decide +kernel
theorem dX8_breaks_8 : decode cX8_breaks 8 = .ok (.bipush (-2), 2) := by decide +kernel
theorem dX8_breaks_10 : decode cX8_breaks 10 = .ok (.goto 11, 3) := by decide +kernel
theorem dX8_breaks_21 : decode cX8_breaks 21 = .ok (.ireturn, 1) := by decide +kernel
theorem dX8_by_0 : decode cX8_by 0 = .ok (.aload_n 0, 1) := by decide +kernel
theorem dX8_by_1 : decode cX8_by 1 = .ok (.invokevirtual 120, 3) := by decide +kernel
theorem dX8_by_4 : decode cX8_by 4 = .ok (.ifCond .eq 12, 3) := by decide +kernel
theorem dX8_by_16 : decode cX8_by 16 = .ok (.bipush (-2), 2) := by decide +kernel
theorem dX8_by_18 : decode cX8_by 18 = .ok (.goto 11, 3) := by decide +kernel
theorem dX8_by_29 : decode cX8_by 29 = .ok (.ireturn, 1) := by decide +kernel
theorem dX8_calm_0 : decode cX8_calm 0 = .ok (.aload_n 0, 1) := by decide +kernel
theorem dX8_calm_1 : decode cX8_calm 1 = .ok (.iload_n 1, 1) := by decide +kernel
theorem dX8_calm_2 : decode cX8_calm 2 = .ok (.invokevirtual 124, 3) := by decide +kernel
theorem dX8_calm_5 : decode cX8_calm 5 = .ok (.ifCond .eq 6, 3) := by decide +kernel
theorem dX8_calm_8 : decode cX8_calm 8 = .ok (.bipush (-2), 2) := by decide +kernel
theorem dX8_calm_10 : decode cX8_calm 10 = .ok (.ireturn, 1) := by decide +kernel
theorem dX8_cell_0 : decode cX8_cell 0 = .ok (.aload_n 0, 1) := by decide +kernel
theorem dX8_cell_1 : decode cX8_cell 1 = .ok (.iload_n 1, 1) := by decide +kernel
theorem dX8_cell_2 : decode cX8_cell 2 = .ok (.invokevirtual 100, 3) := by decide +kernel
theorem dX8_cell_5 : decode cX8_cell 5 = .ok (.ifCond .eq 8, 3) := by decide +kernel
theorem dX8_cell_8 : decode cX8_cell 8 = .ok (.bipush (-2), 2) := by decide +kernel
theorem dX8_cell_10 : decode cX8_cell 10 = .ok (.goto 12, 3) := by decide +kernel
theorem dX8_cell_22 : decode cX8_cell 22 = .ok (.ireturn, 1) := by decide +kernel
theorem dX8_chance_0 : decode cX8_chance 0 = .ok (.aload_n 0, 1) := by decide +kernel
theorem dX8_chance_1 : decode cX8_chance 1 = .ok (.invokevirtual 120, 3) := by decide +kernel
theorem dX8_chance_4 : decode cX8_chance 4 = .ok (.ifCond .eq 12, 3) := by decide +kernel
theorem dX8_chance_16 : decode cX8_chance 16 = .ok (.ldc2_w 285, 3) := by decide +kernel
theorem dX8_chance_19 : decode cX8_chance 19 = .ok (.goto 11, 3) := by decide +kernel
theorem dX8_chance_30 : decode cX8_chance 30 = .ok (.lreturn, 1) := by decide +kernel
theorem dX8_clashes_0 : decode cX8_clashes 0 = .ok (.aload_n 0, 1) := by decide +kernel
theorem dX8_clashes_1 : decode cX8_clashes 1 = .ok (.iload_n 1, 1) := by decide +kernel
theorem dX8_clashes_2 : decode cX8_clashes 2 = .ok (.invokevirtual 114, 3) := by decide +kernel
theorem dX8_clashes_5 : decode cX8_clashes 5 = .ok (.ifCond .ne 11, 3) := by decide +kernel
theorem dX8_clashes_16 : decode cX8_clashes 16 = .ok (.bipush (-2), 2) := by decide +kernel
theorem dX8_clashes_18 : decode cX8_clashes 18 = .ok (.goto 12, 3) := by decide +kernel
theorem dX8_clashes_30 : decode cX8_clashes 30 = .ok (.ireturn, 1) := by decide +kernel
theorem dX8_commute_0 : decode cX8_commute 0 = .ok (.aload_n 0, 1) := by decide +kernel
theorem dX8_commute_1 : decode cX8_commute 1 = .ok (.iload_n 1, 1) := by decide +kernel
theorem dX8_commute_2 : decode cX8_commute 2 = .ok (.invokevirtual 114, 3) := by decide +kernel
theorem dX8_commute_5 : decode cX8_commute 5 = .ok (.ifCond .ne 11, 3) := by decide +kernel
theorem dX8_commute_16 : decode cX8_commute 16 = .ok (.bipush (-2), 2) := by decide +kernel
theorem dX8_commute_18 : decode cX8_commute 18 = .ok (.ireturn, 1) := by decide +kernel
theorem dX8_culprit_0 : decode cX8_culprit 0 = .ok (.aload_n 0, 1) := by decide +kernel
theorem dX8_culprit_1 : decode cX8_culprit 1 = .ok (.iload_n 1, 1) := by decide +kernel
theorem dX8_culprit_2 : decode cX8_culprit 2 = .ok (.invokevirtual 196, 3) := by decide +kernel
theorem dX8_culprit_5 : decode cX8_culprit 5 = .ok (.ifCond .eq 6, 3) := by decide +kernel
theorem dX8_culprit_8 : decode cX8_culprit 8 = .ok (.bipush (-2), 2) := by decide +kernel
theorem dX8_culprit_10 : decode cX8_culprit 10 = .ok (.ireturn, 1) := by decide +kernel
theorem dX8_cure_0 : decode cX8_cure 0 = .ok (.aload_n 0, 1) := by decide +kernel
theorem dX8_cure_1 : decode cX8_cure 1 = .ok (.invokevirtual 120, 3) := by decide +kernel
theorem dX8_cure_4 : decode cX8_cure 4 = .ok (.ifCond .ne 6, 3) := by decide +kernel
theorem dX8_cure_7 : decode cX8_cure 7 = .ok (.bipush (-2), 2) := by decide +kernel
theorem dX8_cure_9 : decode cX8_cure 9 = .ok (.ireturn, 1) := by decide +kernel
theorem dX8_dead_0 : decode cX8_dead 0 = .ok (.aload_n 0, 1) := by decide +kernel
theorem dX8_dead_1 : decode cX8_dead 1 = .ok (.invokevirtual 120, 3) := by decide +kernel
theorem dX8_dead_4 : decode cX8_dead 4 = .ok (.ifCond .ne 6, 3) := by decide +kernel
theorem dX8_dead_7 : decode cX8_dead 7 = .ok (.bipush (-2), 2) := by decide +kernel
theorem dX8_dead_9 : decode cX8_dead 9 = .ok (.ireturn, 1) := by decide +kernel
theorem dX8_does_0 : decode cX8_does 0 = .ok (.aload_n 0, 1) := by decide +kernel
theorem dX8_does_1 : decode cX8_does 1 = .ok (.iload_n 1, 1) := by decide +kernel
theorem dX8_does_2 : decode cX8_does 2 = .ok (.invokevirtual 114, 3) := by decide +kernel
theorem dX8_does_5 : decode cX8_does 5 = .ok (.ifCond .ne 11, 3) := by decide +kernel
theorem dX8_does_16 : decode cX8_does 16 = .ok (.bipush (-2), 2) := by decide +kernel
theorem dX8_does_18 : decode cX8_does 18 = .ok (.goto 12, 3) := by decide +kernel
theorem dX8_does_30 : decode cX8_does 30 = .ok (.ireturn, 1) := by decide +kernel
theorem dX8_drawn_0 : decode cX8_drawn 0 = .ok (.aload_n 0, 1) := by decide +kernel
theorem dX8_drawn_1 : decode cX8_drawn 1 = .ok (.invokevirtual 120, 3) := by decide +kernel
theorem dX8_drawn_4 : decode cX8_drawn 4 = .ok (.ifCond .eq 23, 3) := by decide +kernel
theorem dX8_drawn_27 : decode cX8_drawn 27 = .ok (.bipush (-2), 2) := by decide +kernel
theorem dX8_drawn_29 : decode cX8_drawn 29 = .ok (.ireturn, 1) := by decide +kernel
theorem dX8_dropped_0 : decode cX8_dropped 0 = .ok (.aload_n 0, 1) := by decide +kernel
theorem dX8_dropped_1 : decode cX8_dropped 1 = .ok (.invokevirtual 120, 3) := by decide +kernel
theorem dX8_dropped_4 : decode cX8_dropped 4 = .ok (.ifCond .eq 13, 3) := by decide +kernel
theorem dX8_dropped_17 : decode cX8_dropped 17 = .ok (.bipush (-2), 2) := by decide +kernel
theorem dX8_dropped_19 : decode cX8_dropped 19 = .ok (.ireturn, 1) := by decide +kernel
theorem dX8_drops_0 : decode cX8_drops 0 = .ok (.aload_n 0, 1) := by decide +kernel
theorem dX8_drops_1 : decode cX8_drops 1 = .ok (.iload_n 1, 1) := by decide +kernel
theorem dX8_drops_2 : decode cX8_drops 2 = .ok (.invokevirtual 108, 3) := by decide +kernel
theorem dX8_drops_5 : decode cX8_drops 5 = .ok (.ifCond .eq 8, 3) := by decide +kernel
theorem dX8_drops_8 : decode cX8_drops 8 = .ok (.bipush (-2), 2) := by decide +kernel
theorem dX8_drops_10 : decode cX8_drops 10 = .ok (.goto 25, 3) := by decide +kernel
theorem dX8_drops_35 : decode cX8_drops 35 = .ok (.ireturn, 1) := by decide +kernel
theorem dX8_even_0 : decode cX8_even 0 = .ok (.aload_n 0, 1) := by decide +kernel
theorem dX8_even_1 : decode cX8_even 1 = .ok (.iload_n 1, 1) := by decide +kernel
theorem dX8_even_2 : decode cX8_even 2 = .ok (.invokevirtual 124, 3) := by decide +kernel
theorem dX8_even_5 : decode cX8_even 5 = .ok (.ifCond .ne 19, 3) := by decide +kernel
theorem dX8_even_24 : decode cX8_even 24 = .ok (.bipush (-2), 2) := by decide +kernel
theorem dX8_even_26 : decode cX8_even 26 = .ok (.ireturn, 1) := by decide +kernel
theorem dX8_far_0 : decode cX8_far 0 = .ok (.aload_n 0, 1) := by decide +kernel
theorem dX8_far_1 : decode cX8_far 1 = .ok (.iload_n 1, 1) := by decide +kernel
theorem dX8_far_2 : decode cX8_far 2 = .ok (.invokevirtual 124, 3) := by decide +kernel
theorem dX8_far_5 : decode cX8_far 5 = .ok (.ifCond .ne 11, 3) := by decide +kernel
theorem dX8_far_16 : decode cX8_far 16 = .ok (.bipush (-2), 2) := by decide +kernel
theorem dX8_far_18 : decode cX8_far 18 = .ok (.goto 12, 3) := by decide +kernel
theorem dX8_far_30 : decode cX8_far 30 = .ok (.ireturn, 1) := by decide +kernel
theorem dX8_fewest_0 : decode cX8_fewest 0 = .ok (.aload_n 0, 1) := by decide +kernel
theorem dX8_fewest_1 : decode cX8_fewest 1 = .ok (.iload_n 1, 1) := by decide +kernel
theorem dX8_fewest_2 : decode cX8_fewest 2 = .ok (.invokevirtual 196, 3) := by decide +kernel
theorem dX8_fewest_5 : decode cX8_fewest 5 = .ok (.ifCond .eq 6, 3) := by decide +kernel
theorem dX8_fewest_8 : decode cX8_fewest 8 = .ok (.bipush (-2), 2) := by decide +kernel
theorem dX8_fewest_10 : decode cX8_fewest 10 = .ok (.ireturn, 1) := by decide +kernel
theorem dX8_fine_0 : decode cX8_fine 0 = .ok (.aload_n 0, 1) := by decide +kernel
theorem dX8_fine_1 : decode cX8_fine 1 = .ok (.iload_n 1, 1) := by decide +kernel
theorem dX8_fine_2 : decode cX8_fine 2 = .ok (.invokevirtual 196, 3) := by decide +kernel
theorem dX8_fine_5 : decode cX8_fine 5 = .ok (.ifCond .eq 6, 3) := by decide +kernel
theorem dX8_fine_8 : decode cX8_fine 8 = .ok (.bipush (-2), 2) := by decide +kernel
theorem dX8_fine_10 : decode cX8_fine 10 = .ok (.ireturn, 1) := by decide +kernel
theorem dX8_fits_0 : decode cX8_fits 0 = .ok (.aload_n 0, 1) := by decide +kernel
theorem dX8_fits_1 : decode cX8_fits 1 = .ok (.iload_n 1, 1) := by decide +kernel
theorem dX8_fits_2 : decode cX8_fits 2 = .ok (.invokevirtual 254, 3) := by decide +kernel
theorem dX8_fits_5 : decode cX8_fits 5 = .ok (.istore_n 2, 1) := by decide +kernel
theorem dX8_fits_6 : decode cX8_fits 6 = .ok (.iload_n 2, 1) := by decide +kernel
theorem dX8_fits_7 : decode cX8_fits 7 = .ok (.ifCond .eq 7, 3) := by decide +kernel
theorem dX8_fits_10 : decode cX8_fits 10 = .ok (.iload_n 2, 1) := by decide +kernel
theorem dX8_fits_11 : decode cX8_fits 11 = .ok (.goto 26, 3) := by decide +kernel
theorem dX8_fits_37 : decode cX8_fits 37 = .ok (.ireturn, 1) := by decide +kernel
theorem dX8_freely_0 : decode cX8_freely 0 = .ok (.aload_n 0, 1) := by decide +kernel
theorem dX8_freely_1 : decode cX8_freely 1 = .ok (.iload_n 1, 1) := by decide +kernel
theorem dX8_freely_2 : decode cX8_freely 2 = .ok (.invokevirtual 124, 3) := by decide +kernel
theorem dX8_freely_5 : decode cX8_freely 5 = .ok (.ifCond .ne 11, 3) := by decide +kernel
theorem dX8_freely_16 : decode cX8_freely 16 = .ok (.bipush (-2), 2) := by decide +kernel
theorem dX8_freely_18 : decode cX8_freely 18 = .ok (.ireturn, 1) := by decide +kernel
theorem dX8_frees_0 : decode cX8_frees 0 = .ok (.aload_n 0, 1) := by decide +kernel
theorem dX8_frees_1 : decode cX8_frees 1 = .ok (.iload_n 1, 1) := by decide +kernel
theorem dX8_frees_2 : decode cX8_frees 2 = .ok (.invokevirtual 114, 3) := by decide +kernel
theorem dX8_frees_5 : decode cX8_frees 5 = .ok (.ifCond .eq 6, 3) := by decide +kernel
theorem dX8_frees_8 : decode cX8_frees 8 = .ok (.bipush (-2), 2) := by decide +kernel
theorem dX8_frees_10 : decode cX8_frees 10 = .ok (.ireturn, 1) := by decide +kernel
theorem dX8_gets_0 : decode cX8_gets 0 = .ok (.aload_n 0, 1) := by decide +kernel
theorem dX8_gets_1 : decode cX8_gets 1 = .ok (.iload_n 1, 1) := by decide +kernel
theorem dX8_gets_2 : decode cX8_gets 2 = .ok (.iload_n 2, 1) := by decide +kernel
theorem dX8_gets_3 : decode cX8_gets 3 = .ok (.invokevirtual 275, 3) := by decide +kernel
theorem dX8_gets_6 : decode cX8_gets 6 = .ok (.ifCond .ne 23, 3) := by decide +kernel
theorem dX8_gets_29 : decode cX8_gets 29 = .ok (.ldc_w 270, 3) := by decide +kernel
theorem dX8_gets_32 : decode cX8_gets 32 = .ok (.ireturn, 1) := by decide +kernel
theorem dX8_hard_0 : decode cX8_hard 0 = .ok (.aload_n 0, 1) := by decide +kernel
theorem dX8_hard_1 : decode cX8_hard 1 = .ok (.invokevirtual 120, 3) := by decide +kernel
theorem dX8_hard_4 : decode cX8_hard 4 = .ok (.ifCond .ne 6, 3) := by decide +kernel
theorem dX8_hard_7 : decode cX8_hard 7 = .ok (.bipush (-2), 2) := by decide +kernel
theorem dX8_hard_9 : decode cX8_hard 9 = .ok (.ireturn, 1) := by decide +kernel
theorem dX8_hits_0 : decode cX8_hits 0 = .ok (.aload_n 0, 1) := by decide +kernel
theorem dX8_hits_1 : decode cX8_hits 1 = .ok (.iload_n 1, 1) := by decide +kernel
theorem dX8_hits_2 : decode cX8_hits 2 = .ok (.invokevirtual 108, 3) := by decide +kernel
theorem dX8_hits_5 : decode cX8_hits 5 = .ok (.ifCond .ne 11, 3) := by decide +kernel
theorem dX8_hits_16 : decode cX8_hits 16 = .ok (.bipush (-2), 2) := by decide +kernel
theorem dX8_hits_18 : decode cX8_hits 18 = .ok (.ireturn, 1) := by decide +kernel
theorem dX8_holds_0 : decode cX8_holds 0 = .ok (.aload_n 0, 1) := by decide +kernel
theorem dX8_holds_1 : decode cX8_holds 1 = .ok (.iload_n 1, 1) := by decide +kernel
theorem dX8_holds_2 : decode cX8_holds 2 = .ok (.invokevirtual 108, 3) := by decide +kernel
theorem dX8_holds_5 : decode cX8_holds 5 = .ok (.ifCond .ne 11, 3) := by decide +kernel
theorem dX8_holds_16 : decode cX8_holds 16 = .ok (.bipush (-2), 2) := by decide +kernel
theorem dX8_holds_18 : decode cX8_holds 18 = .ok (.ireturn, 1) := by decide +kernel
theorem dX8_hot_0 : decode cX8_hot 0 = .ok (.aload_n 0, 1) := by decide +kernel
theorem dX8_hot_1 : decode cX8_hot 1 = .ok (.iload_n 1, 1) := by decide +kernel
theorem dX8_hot_2 : decode cX8_hot 2 = .ok (.invokevirtual 196, 3) := by decide +kernel
theorem dX8_hot_5 : decode cX8_hot 5 = .ok (.ifCond .eq 6, 3) := by decide +kernel
theorem dX8_hot_8 : decode cX8_hot 8 = .ok (.bipush (-2), 2) := by decide +kernel
theorem dX8_hot_10 : decode cX8_hot 10 = .ok (.ireturn, 1) := by decide +kernel
theorem dX8_known_0 : decode cX8_known 0 = .ok (.aload_n 0, 1) := by decide +kernel
theorem dX8_known_1 : decode cX8_known 1 = .ok (.iload_n 1, 1) := by decide +kernel
theorem dX8_known_2 : decode cX8_known 2 = .ok (.invokevirtual 108, 3) := by decide +kernel
theorem dX8_known_5 : decode cX8_known 5 = .ok (.ifCond .eq 6, 3) := by decide +kernel
theorem dX8_known_8 : decode cX8_known 8 = .ok (.bipush (-2), 2) := by decide +kernel
theorem dX8_known_10 : decode cX8_known 10 = .ok (.ireturn, 1) := by decide +kernel
theorem dX8_law_0 : decode cX8_law 0 = .ok (.aload_n 0, 1) := by decide +kernel
theorem dX8_law_1 : decode cX8_law 1 = .ok (.invokevirtual 120, 3) := by decide +kernel
theorem dX8_law_4 : decode cX8_law 4 = .ok (.ifCond .ne 6, 3) := by decide +kernel
theorem dX8_law_7 : decode cX8_law 7 = .ok (.bipush (-2), 2) := by decide +kernel
theorem dX8_law_9 : decode cX8_law 9 = .ok (.ireturn, 1) := by decide +kernel
theorem dX8_laws_0 : decode cX8_laws 0 = .ok (.aload_n 0, 1) := by decide +kernel
theorem dX8_laws_1 : decode cX8_laws 1 = .ok (.iload_n 1, 1) := by decide +kernel
theorem dX8_laws_2 : decode cX8_laws 2 = .ok (.invokevirtual 254, 3) := by decide +kernel
theorem dX8_laws_5 : decode cX8_laws 5 = .ok (.istore_n 2, 1) := by decide +kernel
theorem dX8_laws_6 : decode cX8_laws 6 = .ok (.iload_n 2, 1) := by decide +kernel
theorem dX8_laws_7 : decode cX8_laws 7 = .ok (.ifCond .eq 5, 3) := by decide +kernel
theorem dX8_laws_10 : decode cX8_laws 10 = .ok (.iload_n 2, 1) := by decide +kernel
theorem dX8_laws_11 : decode cX8_laws 11 = .ok (.ireturn, 1) := by decide +kernel
theorem dX8_least_0 : decode cX8_least 0 = .ok (.aload_n 0, 1) := by decide +kernel
theorem dX8_least_1 : decode cX8_least 1 = .ok (.iload_n 1, 1) := by decide +kernel
theorem dX8_least_2 : decode cX8_least 2 = .ok (.invokevirtual 196, 3) := by decide +kernel
theorem dX8_least_5 : decode cX8_least 5 = .ok (.ifCond .ne 12, 3) := by decide +kernel
theorem dX8_least_17 : decode cX8_least 17 = .ok (.bipush (-2), 2) := by decide +kernel
theorem dX8_least_19 : decode cX8_least 19 = .ok (.ireturn, 1) := by decide +kernel
theorem dX8_lock_0 : decode cX8_lock 0 = .ok (.aload_n 0, 1) := by decide +kernel
theorem dX8_lock_1 : decode cX8_lock 1 = .ok (.iload_n 1, 1) := by decide +kernel
theorem dX8_lock_2 : decode cX8_lock 2 = .ok (.invokevirtual 114, 3) := by decide +kernel
theorem dX8_lock_5 : decode cX8_lock 5 = .ok (.ifCond .eq 8, 3) := by decide +kernel
theorem dX8_lock_8 : decode cX8_lock 8 = .ok (.bipush (-2), 2) := by decide +kernel
theorem dX8_lock_10 : decode cX8_lock 10 = .ok (.goto 25, 3) := by decide +kernel
theorem dX8_lock_35 : decode cX8_lock 35 = .ok (.ireturn, 1) := by decide +kernel
theorem dX8_locked_0 : decode cX8_locked 0 = .ok (.aload_n 0, 1) := by decide +kernel
theorem dX8_locked_1 : decode cX8_locked 1 = .ok (.invokevirtual 120, 3) := by decide +kernel
theorem dX8_locked_4 : decode cX8_locked 4 = .ok (.ifCond .eq 13, 3) := by decide +kernel
theorem dX8_locked_17 : decode cX8_locked 17 = .ok (.bipush (-2), 2) := by decide +kernel
theorem dX8_locked_19 : decode cX8_locked 19 = .ok (.ireturn, 1) := by decide +kernel
theorem dX8_locks_0 : decode cX8_locks 0 = .ok (.aload_n 0, 1) := by decide +kernel
theorem dX8_locks_1 : decode cX8_locks 1 = .ok (.iload_n 1, 1) := by decide +kernel
theorem dX8_locks_2 : decode cX8_locks 2 = .ok (.invokevirtual 196, 3) := by decide +kernel
theorem dX8_locks_5 : decode cX8_locks 5 = .ok (.ifCond .eq 8, 3) := by decide +kernel
theorem dX8_locks_8 : decode cX8_locks 8 = .ok (.bipush (-2), 2) := by decide +kernel
theorem dX8_locks_10 : decode cX8_locks 10 = .ok (.goto 11, 3) := by decide +kernel
theorem dX8_locks_21 : decode cX8_locks 21 = .ok (.ireturn, 1) := by decide +kernel
theorem dX8_luck_0 : decode cX8_luck 0 = .ok (.aload_n 0, 1) := by decide +kernel
theorem dX8_luck_1 : decode cX8_luck 1 = .ok (.invokevirtual 120, 3) := by decide +kernel
theorem dX8_luck_4 : decode cX8_luck 4 = .ok (.ifCond .eq 25, 3) := by decide +kernel
theorem dX8_luck_29 : decode cX8_luck 29 = .ok (.bipush (-2), 2) := by decide +kernel
theorem dX8_luck_31 : decode cX8_luck 31 = .ok (.ireturn, 1) := by decide +kernel
theorem dX8_mean_0 : decode cX8_mean 0 = .ok (.aload_n 0, 1) := by decide +kernel
theorem dX8_mean_1 : decode cX8_mean 1 = .ok (.invokevirtual 120, 3) := by decide +kernel
theorem dX8_mean_4 : decode cX8_mean 4 = .ok (.ifCond .eq 12, 3) := by decide +kernel
theorem dX8_mean_16 : decode cX8_mean 16 = .ok (.ldc2_w 285, 3) := by decide +kernel
theorem dX8_mean_19 : decode cX8_mean 19 = .ok (.goto 11, 3) := by decide +kernel
theorem dX8_mean_30 : decode cX8_mean 30 = .ok (.lreturn, 1) := by decide +kernel
theorem dX8_merge_0 : decode cX8_merge 0 = .ok (.aload_n 0, 1) := by decide +kernel
theorem dX8_merge_1 : decode cX8_merge 1 = .ok (.iload_n 1, 1) := by decide +kernel
theorem dX8_merge_2 : decode cX8_merge 2 = .ok (.invokevirtual 124, 3) := by decide +kernel
theorem dX8_merge_5 : decode cX8_merge 5 = .ok (.ifCond .ne 19, 3) := by decide +kernel
theorem dX8_merge_24 : decode cX8_merge 24 = .ok (.bipush (-2), 2) := by decide +kernel
theorem dX8_merge_26 : decode cX8_merge 26 = .ok (.ireturn, 1) := by decide +kernel
theorem dX8_nearest_0 : decode cX8_nearest 0 = .ok (.aload_n 0, 1) := by decide +kernel
theorem dX8_nearest_1 : decode cX8_nearest 1 = .ok (.iload_n 1, 1) := by decide +kernel
theorem dX8_nearest_2 : decode cX8_nearest 2 = .ok (.invokevirtual 124, 3) := by decide +kernel
theorem dX8_nearest_5 : decode cX8_nearest 5 = .ok (.ifCond .eq 6, 3) := by decide +kernel
theorem dX8_nearest_8 : decode cX8_nearest 8 = .ok (.bipush (-2), 2) := by decide +kernel
theorem dX8_nearest_10 : decode cX8_nearest 10 = .ok (.ireturn, 1) := by decide +kernel
theorem dX8_needed_0 : decode cX8_needed 0 = .ok (.aload_n 0, 1) := by decide +kernel
theorem dX8_needed_1 : decode cX8_needed 1 = .ok (.iload_n 1, 1) := by decide +kernel
theorem dX8_needed_2 : decode cX8_needed 2 = .ok (.invokevirtual 196, 3) := by decide +kernel
theorem dX8_needed_5 : decode cX8_needed 5 = .ok (.ifCond .eq 8, 3) := by decide +kernel
theorem dX8_needed_8 : decode cX8_needed 8 = .ok (.bipush (-2), 2) := by decide +kernel
theorem dX8_needed_10 : decode cX8_needed 10 = .ok (.goto 11, 3) := by decide +kernel
theorem dX8_needed_21 : decode cX8_needed 21 = .ok (.ireturn, 1) := by decide +kernel
theorem dX8_op_0 : decode cX8_op 0 = .ok (.aload_n 0, 1) := by decide +kernel
theorem dX8_op_1 : decode cX8_op 1 = .ok (.iload_n 1, 1) := by decide +kernel
theorem dX8_op_2 : decode cX8_op 2 = .ok (.invokevirtual 114, 3) := by decide +kernel
theorem dX8_op_5 : decode cX8_op 5 = .ok (.ifCond .ne 12, 3) := by decide +kernel
theorem dX8_op_17 : decode cX8_op 17 = .ok (.bipush (-2), 2) := by decide +kernel
theorem dX8_op_19 : decode cX8_op 19 = .ok (.ireturn, 1) := by decide +kernel
theorem dX8_opens_0 : decode cX8_opens 0 = .ok (.aload_n 0, 1) := by decide +kernel
theorem dX8_opens_1 : decode cX8_opens 1 = .ok (.iload_n 1, 1) := by decide +kernel
theorem dX8_opens_2 : decode cX8_opens 2 = .ok (.invokevirtual 124, 3) := by decide +kernel
theorem dX8_opens_5 : decode cX8_opens 5 = .ok (.ifCond .eq 8, 3) := by decide +kernel
theorem dX8_opens_8 : decode cX8_opens 8 = .ok (.bipush (-2), 2) := by decide +kernel
theorem dX8_opens_10 : decode cX8_opens 10 = .ok (.goto 11, 3) := by decide +kernel
theorem dX8_opens_21 : decode cX8_opens 21 = .ok (.ireturn, 1) := by decide +kernel
theorem dX8_pairs_0 : decode cX8_pairs 0 = .ok (.aload_n 0, 1) := by decide +kernel
theorem dX8_pairs_1 : decode cX8_pairs 1 = .ok (.iload_n 1, 1) := by decide +kernel
theorem dX8_pairs_2 : decode cX8_pairs 2 = .ok (.invokevirtual 196, 3) := by decide +kernel
theorem dX8_pairs_5 : decode cX8_pairs 5 = .ok (.ifCond .eq 8, 3) := by decide +kernel
theorem dX8_pairs_8 : decode cX8_pairs 8 = .ok (.bipush (-2), 2) := by decide +kernel
theorem dX8_pairs_10 : decode cX8_pairs 10 = .ok (.goto 11, 3) := by decide +kernel
theorem dX8_pairs_21 : decode cX8_pairs 21 = .ok (.ireturn, 1) := by decide +kernel
theorem dX8_rate_0 : decode cX8_rate 0 = .ok (.aload_n 0, 1) := by decide +kernel
theorem dX8_rate_1 : decode cX8_rate 1 = .ok (.iload_n 1, 1) := by decide +kernel
theorem dX8_rate_2 : decode cX8_rate 2 = .ok (.invokevirtual 100, 3) := by decide +kernel
theorem dX8_rate_5 : decode cX8_rate 5 = .ok (.ifCond .ne 12, 3) := by decide +kernel
theorem dX8_rate_17 : decode cX8_rate 17 = .ok (.bipush (-2), 2) := by decide +kernel
theorem dX8_rate_19 : decode cX8_rate 19 = .ok (.ireturn, 1) := by decide +kernel
theorem dX8_reach_0 : decode cX8_reach 0 = .ok (.aload_n 0, 1) := by decide +kernel
theorem dX8_reach_1 : decode cX8_reach 1 = .ok (.iload_n 1, 1) := by decide +kernel
theorem dX8_reach_2 : decode cX8_reach 2 = .ok (.invokevirtual 124, 3) := by decide +kernel
theorem dX8_reach_5 : decode cX8_reach 5 = .ok (.ifCond .ne 11, 3) := by decide +kernel
theorem dX8_reach_16 : decode cX8_reach 16 = .ok (.bipush (-2), 2) := by decide +kernel
theorem dX8_reach_18 : decode cX8_reach 18 = .ok (.ireturn, 1) := by decide +kernel
theorem dX8_refusalOfRow_0 : decode cX8_refusalOfRow 0 = .ok (.aload_n 0, 1) := by decide +kernel
theorem dX8_refusalOfRow_1 : decode cX8_refusalOfRow 1 = .ok (.invokevirtual 120, 3) := by decide +kernel
theorem dX8_refusalOfRow_4 : decode cX8_refusalOfRow 4 = .ok (.ifCond .eq 11, 3) := by decide +kernel
theorem dX8_refusalOfRow_15 : decode cX8_refusalOfRow 15 = .ok (.bipush (-2), 2) := by decide +kernel
theorem dX8_refusalOfRow_17 : decode cX8_refusalOfRow 17 = .ok (.ireturn, 1) := by decide +kernel
theorem dX8_rests_0 : decode cX8_rests 0 = .ok (.aload_n 0, 1) := by decide +kernel
theorem dX8_rests_1 : decode cX8_rests 1 = .ok (.iload_n 1, 1) := by decide +kernel
theorem dX8_rests_2 : decode cX8_rests 2 = .ok (.iload_n 2, 1) := by decide +kernel
theorem dX8_rests_3 : decode cX8_rests 3 = .ok (.invokevirtual 275, 3) := by decide +kernel
theorem dX8_rests_6 : decode cX8_rests 6 = .ok (.ifCond .eq 8, 3) := by decide +kernel
theorem dX8_rests_9 : decode cX8_rests 9 = .ok (.bipush (-2), 2) := by decide +kernel
theorem dX8_rests_11 : decode cX8_rests 11 = .ok (.goto 12, 3) := by decide +kernel
theorem dX8_rests_23 : decode cX8_rests 23 = .ok (.ireturn, 1) := by decide +kernel
theorem dX8_room_0 : decode cX8_room 0 = .ok (.aload_n 0, 1) := by decide +kernel
theorem dX8_room_1 : decode cX8_room 1 = .ok (.iload_n 1, 1) := by decide +kernel
theorem dX8_room_2 : decode cX8_room 2 = .ok (.invokevirtual 100, 3) := by decide +kernel
theorem dX8_room_5 : decode cX8_room 5 = .ok (.ifCond .eq 6, 3) := by decide +kernel
theorem dX8_room_8 : decode cX8_room 8 = .ok (.bipush (-2), 2) := by decide +kernel
theorem dX8_room_10 : decode cX8_room 10 = .ok (.ireturn, 1) := by decide +kernel
theorem dX8_rule_0 : decode cX8_rule 0 = .ok (.aload_n 0, 1) := by decide +kernel
theorem dX8_rule_1 : decode cX8_rule 1 = .ok (.iload_n 1, 1) := by decide +kernel
theorem dX8_rule_2 : decode cX8_rule 2 = .ok (.invokevirtual 108, 3) := by decide +kernel
theorem dX8_rule_5 : decode cX8_rule 5 = .ok (.ifCond .ne 12, 3) := by decide +kernel
theorem dX8_rule_17 : decode cX8_rule 17 = .ok (.bipush (-2), 2) := by decide +kernel
theorem dX8_rule_19 : decode cX8_rule 19 = .ok (.ireturn, 1) := by decide +kernel
theorem dX8_safe_0 : decode cX8_safe 0 = .ok (.aload_n 0, 1) := by decide +kernel
theorem dX8_safe_1 : decode cX8_safe 1 = .ok (.iload_n 1, 1) := by decide +kernel
theorem dX8_safe_2 : decode cX8_safe 2 = .ok (.invokevirtual 196, 3) := by decide +kernel
theorem dX8_safe_5 : decode cX8_safe 5 = .ok (.ifCond .eq 6, 3) := by decide +kernel
theorem dX8_safe_8 : decode cX8_safe 8 = .ok (.bipush (-2), 2) := by decide +kernel
theorem dX8_safe_10 : decode cX8_safe 10 = .ok (.ireturn, 1) := by decide +kernel
theorem dX8_share_0 : decode cX8_share 0 = .ok (.aload_n 0, 1) := by decide +kernel
theorem dX8_share_1 : decode cX8_share 1 = .ok (.iload_n 1, 1) := by decide +kernel
theorem dX8_share_2 : decode cX8_share 2 = .ok (.invokevirtual 108, 3) := by decide +kernel
theorem dX8_share_5 : decode cX8_share 5 = .ok (.ifCond .ne 12, 3) := by decide +kernel
theorem dX8_share_17 : decode cX8_share 17 = .ok (.ldc_w 270, 3) := by decide +kernel
theorem dX8_share_20 : decode cX8_share 20 = .ok (.ireturn, 1) := by decide +kernel
theorem dX8_spare_0 : decode cX8_spare 0 = .ok (.aload_n 0, 1) := by decide +kernel
theorem dX8_spare_1 : decode cX8_spare 1 = .ok (.iload_n 1, 1) := by decide +kernel
theorem dX8_spare_2 : decode cX8_spare 2 = .ok (.invokevirtual 108, 3) := by decide +kernel
theorem dX8_spare_5 : decode cX8_spare 5 = .ok (.ifCond .eq 6, 3) := by decide +kernel
theorem dX8_spare_8 : decode cX8_spare 8 = .ok (.bipush (-2), 2) := by decide +kernel
theorem dX8_spare_10 : decode cX8_spare 10 = .ok (.ireturn, 1) := by decide +kernel
theorem dX8_states_0 : decode cX8_states 0 = .ok (.aload_n 0, 1) := by decide +kernel
theorem dX8_states_1 : decode cX8_states 1 = .ok (.invokevirtual 120, 3) := by decide +kernel
theorem dX8_states_4 : decode cX8_states 4 = .ok (.ifCond .eq 13, 3) := by decide +kernel
theorem dX8_states_17 : decode cX8_states 17 = .ok (.bipush (-2), 2) := by decide +kernel
theorem dX8_states_19 : decode cX8_states 19 = .ok (.ireturn, 1) := by decide +kernel
theorem dX8_step_0 : decode cX8_step 0 = .ok (.aload_n 0, 1) := by decide +kernel
theorem dX8_step_1 : decode cX8_step 1 = .ok (.iload_n 1, 1) := by decide +kernel
theorem dX8_step_2 : decode cX8_step 2 = .ok (.invokevirtual 124, 3) := by decide +kernel
theorem dX8_step_5 : decode cX8_step 5 = .ok (.ifCond .ne 11, 3) := by decide +kernel
theorem dX8_step_16 : decode cX8_step 16 = .ok (.bipush (-2), 2) := by decide +kernel
theorem dX8_step_18 : decode cX8_step 18 = .ok (.goto 12, 3) := by decide +kernel
theorem dX8_step_30 : decode cX8_step 30 = .ok (.ireturn, 1) := by decide +kernel
theorem dX8_table_0 : decode cX8_table 0 = .ok (.aload_n 0, 1) := by decide +kernel
theorem dX8_table_1 : decode cX8_table 1 = .ok (.invokevirtual 120, 3) := by decide +kernel
theorem dX8_table_4 : decode cX8_table 4 = .ok (.ifCond .ne 6, 3) := by decide +kernel
theorem dX8_table_7 : decode cX8_table 7 = .ok (.bipush (-2), 2) := by decide +kernel
theorem dX8_table_9 : decode cX8_table 9 = .ok (.ireturn, 1) := by decide +kernel
theorem dX8_undo_0 : decode cX8_undo 0 = .ok (.aload_n 0, 1) := by decide +kernel
theorem dX8_undo_1 : decode cX8_undo 1 = .ok (.invokevirtual 120, 3) := by decide +kernel
theorem dX8_undo_4 : decode cX8_undo 4 = .ok (.ifCond .ne 6, 3) := by decide +kernel
theorem dX8_undo_7 : decode cX8_undo 7 = .ok (.bipush (-2), 2) := by decide +kernel
theorem dX8_undo_9 : decode cX8_undo 9 = .ok (.ireturn, 1) := by decide +kernel
theorem dX8_valid_0 : decode cX8_valid 0 = .ok (.aload_n 0, 1) := by decide +kernel
theorem dX8_valid_1 : decode cX8_valid 1 = .ok (.iload_n 1, 1) := by decide +kernel
theorem dX8_valid_2 : decode cX8_valid 2 = .ok (.invokevirtual 124, 3) := by decide +kernel
theorem dX8_valid_5 : decode cX8_valid 5 = .ok (.ifCond .eq 6, 3) := by decide +kernel
theorem dX8_valid_8 : decode cX8_valid 8 = .ok (.bipush (-2), 2) := by decide +kernel
theorem dX8_valid_10 : decode cX8_valid 10 = .ok (.ireturn, 1) := by decide +kernel
theorem dX8_valids_0 : decode cX8_valids 0 = .ok (.aload_n 0, 1) := by decide +kernel
theorem dX8_valids_1 : decode cX8_valids 1 = .ok (.invokevirtual 120, 3) := by decide +kernel
theorem dX8_valids_4 : decode cX8_valids 4 = .ok (.ifCond .eq 16, 3) := by decide +kernel
theorem dX8_valids_20 : decode cX8_valids 20 = .ok (.bipush (-2), 2) := by decide +kernel
theorem dX8_valids_22 : decode cX8_valids 22 = .ok (.ireturn, 1) := by decide +kernel
theorem dX8_value_0 : decode cX8_value 0 = .ok (.aload_n 0, 1) := by decide +kernel
theorem dX8_value_1 : decode cX8_value 1 = .ok (.iload_n 1, 1) := by decide +kernel
theorem dX8_value_2 : decode cX8_value 2 = .ok (.invokevirtual 124, 3) := by decide +kernel
theorem dX8_value_5 : decode cX8_value 5 = .ok (.ifCond .ne 11, 3) := by decide +kernel
theorem dX8_value_16 : decode cX8_value 16 = .ok (.bipush (-2), 2) := by decide +kernel
theorem dX8_value_18 : decode cX8_value 18 = .ok (.ireturn, 1) := by decide +kernel
theorem dX8_weight_0 : decode cX8_weight 0 = .ok (.aload_n 0, 1) := by decide +kernel
theorem dX8_weight_1 : decode cX8_weight 1 = .ok (.iload_n 1, 1) := by decide +kernel
theorem dX8_weight_2 : decode cX8_weight 2 = .ok (.invokevirtual 124, 3) := by decide +kernel
theorem dX8_weight_5 : decode cX8_weight 5 = .ok (.ifCond .eq 6, 3) := by decide +kernel
theorem dX8_weight_8 : decode cX8_weight 8 = .ok (.bipush (-2), 2) := by decide +kernel
theorem dX8_weight_10 : decode cX8_weight 10 = .ok (.ireturn, 1) := by decide +kernel
theorem dX8_which_0 : decode cX8_which 0 = .ok (.aload_n 0, 1) := by decide +kernel
theorem dX8_which_1 : decode cX8_which 1 = .ok (.iload_n 1, 1) := by decide +kernel
theorem dX8_which_2 : decode cX8_which 2 = .ok (.invokevirtual 254, 3) := by decide +kernel
theorem dX8_which_5 : decode cX8_which 5 = .ok (.istore_n 2, 1) := by decide +kernel
theorem dX8_which_6 : decode cX8_which 6 = .ok (.iload_n 2, 1) := by decide +kernel
theorem dX8_which_7 : decode cX8_which 7 = .ok (.ifCond .eq 5, 3) := by decide +kernel
theorem dX8_which_10 : decode cX8_which 10 = .ok (.iload_n 2, 1) := by decide +kernel
theorem dX8_which_11 : decode cX8_which 11 = .ok (.ireturn, 1) := by decide +kernel
theorem dX8_works_0 : decode cX8_works 0 = .ok (.aload_n 0, 1) := by decide +kernel
theorem dX8_works_1 : decode cX8_works 1 = .ok (.iload_n 1, 1) := by decide +kernel
theorem dX8_works_2 : decode cX8_works 2 = .ok (.invokevirtual 114, 3) := by decide +kernel
theorem dX8_works_5 : decode cX8_works 5 = .ok (.ifCond .eq 8, 3) := by decide +kernel
theorem dX8_works_8 : decode cX8_works 8 = .ok (.bipush (-2), 2) := by decide +kernel
theorem dX8_works_10 : decode cX8_works 10 = .ok (.goto 11, 3) := by decide +kernel
theorem dX8_works_21 : decode cX8_works 21 = .ok (.ireturn, 1) := by decide +kernel
theorem dX8_worst_0 : decode cX8_worst 0 = .ok (.aload_n 0, 1) := by decide +kernel
theorem dX8_worst_1 : decode cX8_worst 1 = .ok (.iload_n 1, 1) := by decide +kernel
theorem dX8_worst_2 : decode cX8_worst 2 = .ok (.invokevirtual 196, 3) := by decide +kernel
theorem dX8_worst_5 : decode cX8_worst 5 = .ok (.ifCond .eq 6, 3) := by decide +kernel
theorem dX8_worst_8 : decode cX8_worst 8 = .ok (.bipush (-2), 2) := by decide +kernel
theorem dX8_worst_10 : decode cX8_worst 10 = .ok (.ireturn, 1) := by decide +kernel
theorem dX8_worth_0 : decode cX8_worth 0 = .ok (.aload_n 0, 1) := by decide +kernel
theorem dX8_worth_1 : decode cX8_worth 1 = .ok (.invokevirtual 120, 3) := by decide +kernel
theorem dX8_worth_4 : decode cX8_worth 4 = .ok (.ifCond .eq 20, 3) := by decide +kernel
theorem dX8_worth_24 : decode cX8_worth 24 = .ok (.bipush (-2), 2) := by decide +kernel
theorem dX8_worth_26 : decode cX8_worth 26 = .ok (.ireturn, 1) := by decide +kernel
theorem gw_X8_all_X8_noDepth : GoodIn W_X8_all W_X8_noDepth := fun w h => ⟨List.mem_cons_of_mem _ (List.mem_append_right _ (List.mem_append_right _ (List.mem_append_left _ (h)))), (wI_X8_noDepth w h).2⟩
theorem gc_X8_all_196_X8_noDepth : GoodIn W_X8_all (wsV RX8 196 RX8 yX8_noDepth W_X8_noDepth) := goodIn_app (goodIn_sub (List.forall_mem_cons.mpr ⟨List.mem_cons_of_mem _ (List.mem_append_left _ (List.mem_of_getElem? (i := 0) rfl)), List.forall_mem_cons.mpr ⟨List.mem_cons_of_mem _ (List.mem_append_left _ (List.mem_of_getElem? (i := 1) rfl)), List.forall_mem_cons.mpr ⟨List.mem_cons_of_mem _ (List.mem_append_left _ (List.mem_of_getElem? (i := 2) rfl)), List.forall_mem_cons.mpr ⟨List.mem_cons_of_mem _ (List.mem_append_left _ (List.mem_of_getElem? (i := 3) rfl)), fun _ h => absurd h List.not_mem_nil⟩⟩⟩⟩) (by decide +kernel)) gw_X8_all_X8_noDepth
theorem gw_X8_alone_X8_noRule : GoodIn W_X8_alone W_X8_noRule := fun w h => ⟨List.mem_cons_of_mem _ (List.mem_append_right _ (List.mem_append_right _ (List.mem_append_left _ (h)))), (wI_X8_noRule w h).2⟩
theorem gc_X8_alone_108_X8_noRule : GoodIn W_X8_alone (wsV RX8 108 RX8 yX8_noRule W_X8_noRule) := goodIn_app (goodIn_sub (List.forall_mem_cons.mpr ⟨List.mem_cons_of_mem _ (List.mem_append_left _ (List.mem_of_getElem? (i := 0) rfl)), List.forall_mem_cons.mpr ⟨List.mem_cons_of_mem _ (List.mem_append_left _ (List.mem_of_getElem? (i := 1) rfl)), List.forall_mem_cons.mpr ⟨List.mem_cons_of_mem _ (List.mem_append_left _ (List.mem_of_getElem? (i := 2) rfl)), List.forall_mem_cons.mpr ⟨List.mem_cons_of_mem _ (List.mem_append_left _ (List.mem_of_getElem? (i := 3) rfl)), fun _ h => absurd h List.not_mem_nil⟩⟩⟩⟩) (by decide +kernel)) gw_X8_alone_X8_noRule
theorem gw_X8_anew_X8_isTold : GoodIn W_X8_anew W_X8_isTold := fun w h => ⟨List.mem_cons_of_mem _ (List.mem_append_right _ (List.mem_append_right _ (List.mem_append_right _ (List.mem_append_left _ (h))))), (wI_X8_isTold w h).2⟩
theorem gc_X8_anew_120_X8_isTold : GoodIn W_X8_anew (wsV RX8 120 RX8 yX8_isTold W_X8_isTold) := goodIn_app (goodIn_sub (List.forall_mem_cons.mpr ⟨List.mem_cons_of_mem _ (List.mem_append_left _ (List.mem_of_getElem? (i := 0) rfl)), List.forall_mem_cons.mpr ⟨List.mem_cons_of_mem _ (List.mem_append_left _ (List.mem_of_getElem? (i := 1) rfl)), List.forall_mem_cons.mpr ⟨List.mem_cons_of_mem _ (List.mem_append_left _ (List.mem_of_getElem? (i := 2) rfl)), List.forall_mem_cons.mpr ⟨List.mem_cons_of_mem _ (List.mem_append_left _ (List.mem_of_getElem? (i := 3) rfl)), fun _ h => absurd h List.not_mem_nil⟩⟩⟩⟩) (by decide +kernel)) gw_X8_anew_X8_isTold
theorem gw_X8_asked_X8_noState : GoodIn W_X8_asked W_X8_noState := fun w h => ⟨List.mem_cons_of_mem _ (List.mem_append_right _ (List.mem_append_right _ (List.mem_append_right _ (List.mem_append_left _ (h))))), (wI_X8_noState w h).2⟩
theorem gc_X8_asked_124_X8_noState : GoodIn W_X8_asked (wsV RX8 124 RX8 yX8_noState W_X8_noState) := goodIn_app (goodIn_sub (List.forall_mem_cons.mpr ⟨List.mem_cons_of_mem _ (List.mem_append_left _ (List.mem_of_getElem? (i := 0) rfl)), List.forall_mem_cons.mpr ⟨List.mem_cons_of_mem _ (List.mem_append_left _ (List.mem_of_getElem? (i := 1) rfl)), List.forall_mem_cons.mpr ⟨List.mem_cons_of_mem _ (List.mem_append_left _ (List.mem_of_getElem? (i := 2) rfl)), List.forall_mem_cons.mpr ⟨List.mem_cons_of_mem _ (List.mem_append_left _ (List.mem_of_getElem? (i := 3) rfl)), fun _ h => absurd h List.not_mem_nil⟩⟩⟩⟩) (by decide +kernel)) gw_X8_asked_X8_noState
theorem gw_X8_bad_X8_noState : GoodIn W_X8_bad W_X8_noState := fun w h => ⟨List.mem_cons_of_mem _ (List.mem_append_right _ (List.mem_append_right _ (List.mem_append_left _ (h)))), (wI_X8_noState w h).2⟩
theorem gc_X8_bad_124_X8_noState : GoodIn W_X8_bad (wsV RX8 124 RX8 yX8_noState W_X8_noState) := goodIn_app (goodIn_sub (List.forall_mem_cons.mpr ⟨List.mem_cons_of_mem _ (List.mem_append_left _ (List.mem_of_getElem? (i := 0) rfl)), List.forall_mem_cons.mpr ⟨List.mem_cons_of_mem _ (List.mem_append_left _ (List.mem_of_getElem? (i := 1) rfl)), List.forall_mem_cons.mpr ⟨List.mem_cons_of_mem _ (List.mem_append_left _ (List.mem_of_getElem? (i := 2) rfl)), List.forall_mem_cons.mpr ⟨List.mem_cons_of_mem _ (List.mem_append_left _ (List.mem_of_getElem? (i := 3) rfl)), fun _ h => absurd h List.not_mem_nil⟩⟩⟩⟩) (by decide +kernel)) gw_X8_bad_X8_noState
theorem gw_X8_bare_X8_noDepth : GoodIn W_X8_bare W_X8_noDepth := fun w h => ⟨List.mem_cons_of_mem _ (List.mem_append_right _ (List.mem_append_right _ (List.mem_append_right _ (List.mem_append_left _ (h))))), (wI_X8_noDepth w h).2⟩
theorem gc_X8_bare_196_X8_noDepth : GoodIn W_X8_bare (wsV RX8 196 RX8 yX8_noDepth W_X8_noDepth) := goodIn_app (goodIn_sub (List.forall_mem_cons.mpr ⟨List.mem_cons_of_mem _ (List.mem_append_left _ (List.mem_of_getElem? (i := 0) rfl)), List.forall_mem_cons.mpr ⟨List.mem_cons_of_mem _ (List.mem_append_left _ (List.mem_of_getElem? (i := 1) rfl)), List.forall_mem_cons.mpr ⟨List.mem_cons_of_mem _ (List.mem_append_left _ (List.mem_of_getElem? (i := 2) rfl)), List.forall_mem_cons.mpr ⟨List.mem_cons_of_mem _ (List.mem_append_left _ (List.mem_of_getElem? (i := 3) rfl)), fun _ h => absurd h List.not_mem_nil⟩⟩⟩⟩) (by decide +kernel)) gw_X8_bare_X8_noDepth
theorem gw_X8_blame_X8_isTold : GoodIn W_X8_blame W_X8_isTold := fun w h => ⟨List.mem_cons_of_mem _ (List.mem_append_right _ (List.mem_append_right _ (List.mem_append_right _ (List.mem_append_left _ (h))))), (wI_X8_isTold w h).2⟩
theorem gc_X8_blame_120_X8_isTold : GoodIn W_X8_blame (wsV RX8 120 RX8 yX8_isTold W_X8_isTold) := goodIn_app (goodIn_sub (List.forall_mem_cons.mpr ⟨List.mem_cons_of_mem _ (List.mem_append_left _ (List.mem_of_getElem? (i := 0) rfl)), List.forall_mem_cons.mpr ⟨List.mem_cons_of_mem _ (List.mem_append_left _ (List.mem_of_getElem? (i := 1) rfl)), List.forall_mem_cons.mpr ⟨List.mem_cons_of_mem _ (List.mem_append_left _ (List.mem_of_getElem? (i := 2) rfl)), List.forall_mem_cons.mpr ⟨List.mem_cons_of_mem _ (List.mem_append_left _ (List.mem_of_getElem? (i := 3) rfl)), fun _ h => absurd h List.not_mem_nil⟩⟩⟩⟩) (by decide +kernel)) gw_X8_blame_X8_isTold
theorem gw_X8_bound_X8_isTold : GoodIn W_X8_bound W_X8_isTold := fun w h => ⟨List.mem_cons_of_mem _ (List.mem_append_right _ (List.mem_append_right _ (List.mem_append_left _ (h)))), (wI_X8_isTold w h).2⟩
theorem gc_X8_bound_120_X8_isTold : GoodIn W_X8_bound (wsV RX8 120 RX8 yX8_isTold W_X8_isTold) := goodIn_app (goodIn_sub (List.forall_mem_cons.mpr ⟨List.mem_cons_of_mem _ (List.mem_append_left _ (List.mem_of_getElem? (i := 0) rfl)), List.forall_mem_cons.mpr ⟨List.mem_cons_of_mem _ (List.mem_append_left _ (List.mem_of_getElem? (i := 1) rfl)), List.forall_mem_cons.mpr ⟨List.mem_cons_of_mem _ (List.mem_append_left _ (List.mem_of_getElem? (i := 2) rfl)), List.forall_mem_cons.mpr ⟨List.mem_cons_of_mem _ (List.mem_append_left _ (List.mem_of_getElem? (i := 3) rfl)), fun _ h => absurd h List.not_mem_nil⟩⟩⟩⟩) (by decide +kernel)) gw_X8_bound_X8_isTold
theorem gw_X8_breaks_X8_noState : GoodIn W_X8_breaks W_X8_noState := fun w h => ⟨List.mem_cons_of_mem _ (List.mem_append_right _ (List.mem_append_right _ (List.mem_append_left _ (h)))), (wI_X8_noState w h).2⟩
theorem gc_X8_breaks_124_X8_noState : GoodIn W_X8_breaks (wsV RX8 124 RX8 yX8_noState W_X8_noState) := goodIn_app (goodIn_sub (List.forall_mem_cons.mpr ⟨List.mem_cons_of_mem _ (List.mem_append_left _ (List.mem_of_getElem? (i := 0) rfl)), List.forall_mem_cons.mpr ⟨List.mem_cons_of_mem _ (List.mem_append_left _ (List.mem_of_getElem? (i := 1) rfl)), List.forall_mem_cons.mpr ⟨List.mem_cons_of_mem _ (List.mem_append_left _ (List.mem_of_getElem? (i := 2) rfl)), List.forall_mem_cons.mpr ⟨List.mem_cons_of_mem _ (List.mem_append_left _ (List.mem_of_getElem? (i := 3) rfl)), fun _ h => absurd h List.not_mem_nil⟩⟩⟩⟩) (by decide +kernel)) gw_X8_breaks_X8_noState
theorem gw_X8_by_X8_isTold : GoodIn W_X8_by W_X8_isTold := fun w h => ⟨List.mem_cons_of_mem _ (List.mem_append_right _ (List.mem_append_right _ (List.mem_append_left _ (h)))), (wI_X8_isTold w h).2⟩
theorem gc_X8_by_120_X8_isTold : GoodIn W_X8_by (wsV RX8 120 RX8 yX8_isTold W_X8_isTold) := goodIn_app (goodIn_sub (List.forall_mem_cons.mpr ⟨List.mem_cons_of_mem _ (List.mem_append_left _ (List.mem_of_getElem? (i := 0) rfl)), List.forall_mem_cons.mpr ⟨List.mem_cons_of_mem _ (List.mem_append_left _ (List.mem_of_getElem? (i := 1) rfl)), List.forall_mem_cons.mpr ⟨List.mem_cons_of_mem _ (List.mem_append_left _ (List.mem_of_getElem? (i := 2) rfl)), List.forall_mem_cons.mpr ⟨List.mem_cons_of_mem _ (List.mem_append_left _ (List.mem_of_getElem? (i := 3) rfl)), fun _ h => absurd h List.not_mem_nil⟩⟩⟩⟩) (by decide +kernel)) gw_X8_by_X8_isTold
theorem gw_X8_calm_X8_noState : GoodIn W_X8_calm W_X8_noState := fun w h => ⟨List.mem_cons_of_mem _ (List.mem_append_right _ (List.mem_append_right _ (List.mem_append_left _ (h)))), (wI_X8_noState w h).2⟩
theorem gc_X8_calm_124_X8_noState : GoodIn W_X8_calm (wsV RX8 124 RX8 yX8_noState W_X8_noState) := goodIn_app (goodIn_sub (List.forall_mem_cons.mpr ⟨List.mem_cons_of_mem _ (List.mem_append_left _ (List.mem_of_getElem? (i := 0) rfl)), List.forall_mem_cons.mpr ⟨List.mem_cons_of_mem _ (List.mem_append_left _ (List.mem_of_getElem? (i := 1) rfl)), List.forall_mem_cons.mpr ⟨List.mem_cons_of_mem _ (List.mem_append_left _ (List.mem_of_getElem? (i := 2) rfl)), List.forall_mem_cons.mpr ⟨List.mem_cons_of_mem _ (List.mem_append_left _ (List.mem_of_getElem? (i := 3) rfl)), fun _ h => absurd h List.not_mem_nil⟩⟩⟩⟩) (by decide +kernel)) gw_X8_calm_X8_noState
theorem gw_X8_cell_X8_noCell : GoodIn W_X8_cell W_X8_noCell := fun w h => ⟨List.mem_cons_of_mem _ (List.mem_append_right _ (List.mem_append_right _ (List.mem_append_right _ (h)))), (wI_X8_noCell w h).2⟩
theorem gc_X8_cell_100_X8_noCell : GoodIn W_X8_cell (wsV RX8 100 RX8 yX8_noCell W_X8_noCell) := goodIn_app (goodIn_sub (List.forall_mem_cons.mpr ⟨List.mem_cons_of_mem _ (List.mem_append_left _ (List.mem_of_getElem? (i := 0) rfl)), List.forall_mem_cons.mpr ⟨List.mem_cons_of_mem _ (List.mem_append_left _ (List.mem_of_getElem? (i := 1) rfl)), List.forall_mem_cons.mpr ⟨List.mem_cons_of_mem _ (List.mem_append_left _ (List.mem_of_getElem? (i := 2) rfl)), List.forall_mem_cons.mpr ⟨List.mem_cons_of_mem _ (List.mem_append_left _ (List.mem_of_getElem? (i := 3) rfl)), fun _ h => absurd h List.not_mem_nil⟩⟩⟩⟩) (by decide +kernel)) gw_X8_cell_X8_noCell
theorem gw_X8_chance_X8_isTold : GoodIn W_X8_chance W_X8_isTold := fun w h => ⟨List.mem_cons_of_mem _ (List.mem_append_right _ (List.mem_append_right _ (List.mem_append_left _ (h)))), (wI_X8_isTold w h).2⟩
theorem gc_X8_chance_120_X8_isTold : GoodIn W_X8_chance (wsV RX8 120 RX8 yX8_isTold W_X8_isTold) := goodIn_app (goodIn_sub (List.forall_mem_cons.mpr ⟨List.mem_cons_of_mem _ (List.mem_append_left _ (List.mem_of_getElem? (i := 0) rfl)), List.forall_mem_cons.mpr ⟨List.mem_cons_of_mem _ (List.mem_append_left _ (List.mem_of_getElem? (i := 1) rfl)), List.forall_mem_cons.mpr ⟨List.mem_cons_of_mem _ (List.mem_append_left _ (List.mem_of_getElem? (i := 2) rfl)), List.forall_mem_cons.mpr ⟨List.mem_cons_of_mem _ (List.mem_append_left _ (List.mem_of_getElem? (i := 3) rfl)), fun _ h => absurd h List.not_mem_nil⟩⟩⟩⟩) (by decide +kernel)) gw_X8_chance_X8_isTold
theorem gw_X8_clashes_X8_noOp : GoodIn W_X8_clashes W_X8_noOp := fun w h => ⟨List.mem_cons_of_mem _ (List.mem_append_right _ (List.mem_append_right _ (List.mem_append_left _ (h)))), (wI_X8_noOp w h).2⟩
theorem gc_X8_clashes_114_X8_noOp : GoodIn W_X8_clashes (wsV RX8 114 RX8 yX8_noOp W_X8_noOp) := goodIn_app (goodIn_sub (List.forall_mem_cons.mpr ⟨List.mem_cons_of_mem _ (List.mem_append_left _ (List.mem_of_getElem? (i := 0) rfl)), List.forall_mem_cons.mpr ⟨List.mem_cons_of_mem _ (List.mem_append_left _ (List.mem_of_getElem? (i := 1) rfl)), List.forall_mem_cons.mpr ⟨List.mem_cons_of_mem _ (List.mem_append_left _ (List.mem_of_getElem? (i := 2) rfl)), List.forall_mem_cons.mpr ⟨List.mem_cons_of_mem _ (List.mem_append_left _ (List.mem_of_getElem? (i := 3) rfl)), fun _ h => absurd h List.not_mem_nil⟩⟩⟩⟩) (by decide +kernel)) gw_X8_clashes_X8_noOp
theorem gw_X8_commute_X8_noOp : GoodIn W_X8_commute W_X8_noOp := fun w h => ⟨List.mem_cons_of_mem _ (List.mem_append_right _ (List.mem_append_right _ (List.mem_append_left _ (h)))), (wI_X8_noOp w h).2⟩
theorem gc_X8_commute_114_X8_noOp : GoodIn W_X8_commute (wsV RX8 114 RX8 yX8_noOp W_X8_noOp) := goodIn_app (goodIn_sub (List.forall_mem_cons.mpr ⟨List.mem_cons_of_mem _ (List.mem_append_left _ (List.mem_of_getElem? (i := 0) rfl)), List.forall_mem_cons.mpr ⟨List.mem_cons_of_mem _ (List.mem_append_left _ (List.mem_of_getElem? (i := 1) rfl)), List.forall_mem_cons.mpr ⟨List.mem_cons_of_mem _ (List.mem_append_left _ (List.mem_of_getElem? (i := 2) rfl)), List.forall_mem_cons.mpr ⟨List.mem_cons_of_mem _ (List.mem_append_left _ (List.mem_of_getElem? (i := 3) rfl)), fun _ h => absurd h List.not_mem_nil⟩⟩⟩⟩) (by decide +kernel)) gw_X8_commute_X8_noOp
theorem gw_X8_culprit_X8_noDepth : GoodIn W_X8_culprit W_X8_noDepth := fun w h => ⟨List.mem_cons_of_mem _ (List.mem_append_right _ (List.mem_append_right _ (List.mem_append_right _ (List.mem_append_left _ (h))))), (wI_X8_noDepth w h).2⟩
theorem gc_X8_culprit_196_X8_noDepth : GoodIn W_X8_culprit (wsV RX8 196 RX8 yX8_noDepth W_X8_noDepth) := goodIn_app (goodIn_sub (List.forall_mem_cons.mpr ⟨List.mem_cons_of_mem _ (List.mem_append_left _ (List.mem_of_getElem? (i := 0) rfl)), List.forall_mem_cons.mpr ⟨List.mem_cons_of_mem _ (List.mem_append_left _ (List.mem_of_getElem? (i := 1) rfl)), List.forall_mem_cons.mpr ⟨List.mem_cons_of_mem _ (List.mem_append_left _ (List.mem_of_getElem? (i := 2) rfl)), List.forall_mem_cons.mpr ⟨List.mem_cons_of_mem _ (List.mem_append_left _ (List.mem_of_getElem? (i := 3) rfl)), fun _ h => absurd h List.not_mem_nil⟩⟩⟩⟩) (by decide +kernel)) gw_X8_culprit_X8_noDepth
theorem gw_X8_cure_X8_isTold : GoodIn W_X8_cure W_X8_isTold := fun w h => ⟨List.mem_cons_of_mem _ (List.mem_append_right _ (List.mem_append_right _ (List.mem_append_right _ (List.mem_append_left _ (h))))), (wI_X8_isTold w h).2⟩
theorem gc_X8_cure_120_X8_isTold : GoodIn W_X8_cure (wsV RX8 120 RX8 yX8_isTold W_X8_isTold) := goodIn_app (goodIn_sub (List.forall_mem_cons.mpr ⟨List.mem_cons_of_mem _ (List.mem_append_left _ (List.mem_of_getElem? (i := 0) rfl)), List.forall_mem_cons.mpr ⟨List.mem_cons_of_mem _ (List.mem_append_left _ (List.mem_of_getElem? (i := 1) rfl)), List.forall_mem_cons.mpr ⟨List.mem_cons_of_mem _ (List.mem_append_left _ (List.mem_of_getElem? (i := 2) rfl)), List.forall_mem_cons.mpr ⟨List.mem_cons_of_mem _ (List.mem_append_left _ (List.mem_of_getElem? (i := 3) rfl)), fun _ h => absurd h List.not_mem_nil⟩⟩⟩⟩) (by decide +kernel)) gw_X8_cure_X8_isTold
theorem gw_X8_dead_X8_isTold : GoodIn W_X8_dead W_X8_isTold := fun w h => ⟨List.mem_cons_of_mem _ (List.mem_append_right _ (List.mem_append_right _ (List.mem_append_right _ (List.mem_append_left _ (h))))), (wI_X8_isTold w h).2⟩
theorem gc_X8_dead_120_X8_isTold : GoodIn W_X8_dead (wsV RX8 120 RX8 yX8_isTold W_X8_isTold) := goodIn_app (goodIn_sub (List.forall_mem_cons.mpr ⟨List.mem_cons_of_mem _ (List.mem_append_left _ (List.mem_of_getElem? (i := 0) rfl)), List.forall_mem_cons.mpr ⟨List.mem_cons_of_mem _ (List.mem_append_left _ (List.mem_of_getElem? (i := 1) rfl)), List.forall_mem_cons.mpr ⟨List.mem_cons_of_mem _ (List.mem_append_left _ (List.mem_of_getElem? (i := 2) rfl)), List.forall_mem_cons.mpr ⟨List.mem_cons_of_mem _ (List.mem_append_left _ (List.mem_of_getElem? (i := 3) rfl)), fun _ h => absurd h List.not_mem_nil⟩⟩⟩⟩) (by decide +kernel)) gw_X8_dead_X8_isTold
theorem gw_X8_does_X8_noOp : GoodIn W_X8_does W_X8_noOp := fun w h => ⟨List.mem_cons_of_mem _ (List.mem_append_right _ (List.mem_append_right _ (List.mem_append_left _ (h)))), (wI_X8_noOp w h).2⟩
theorem gc_X8_does_114_X8_noOp : GoodIn W_X8_does (wsV RX8 114 RX8 yX8_noOp W_X8_noOp) := goodIn_app (goodIn_sub (List.forall_mem_cons.mpr ⟨List.mem_cons_of_mem _ (List.mem_append_left _ (List.mem_of_getElem? (i := 0) rfl)), List.forall_mem_cons.mpr ⟨List.mem_cons_of_mem _ (List.mem_append_left _ (List.mem_of_getElem? (i := 1) rfl)), List.forall_mem_cons.mpr ⟨List.mem_cons_of_mem _ (List.mem_append_left _ (List.mem_of_getElem? (i := 2) rfl)), List.forall_mem_cons.mpr ⟨List.mem_cons_of_mem _ (List.mem_append_left _ (List.mem_of_getElem? (i := 3) rfl)), fun _ h => absurd h List.not_mem_nil⟩⟩⟩⟩) (by decide +kernel)) gw_X8_does_X8_noOp
theorem gw_X8_drawn_X8_isTold : GoodIn W_X8_drawn W_X8_isTold := fun w h => ⟨List.mem_cons_of_mem _ (List.mem_append_right _ (List.mem_append_right _ (List.mem_append_right _ (List.mem_append_left _ (h))))), (wI_X8_isTold w h).2⟩
theorem gc_X8_drawn_120_X8_isTold : GoodIn W_X8_drawn (wsV RX8 120 RX8 yX8_isTold W_X8_isTold) := goodIn_app (goodIn_sub (List.forall_mem_cons.mpr ⟨List.mem_cons_of_mem _ (List.mem_append_left _ (List.mem_of_getElem? (i := 0) rfl)), List.forall_mem_cons.mpr ⟨List.mem_cons_of_mem _ (List.mem_append_left _ (List.mem_of_getElem? (i := 1) rfl)), List.forall_mem_cons.mpr ⟨List.mem_cons_of_mem _ (List.mem_append_left _ (List.mem_of_getElem? (i := 2) rfl)), List.forall_mem_cons.mpr ⟨List.mem_cons_of_mem _ (List.mem_append_left _ (List.mem_of_getElem? (i := 3) rfl)), fun _ h => absurd h List.not_mem_nil⟩⟩⟩⟩) (by decide +kernel)) gw_X8_drawn_X8_isTold
theorem gw_X8_dropped_X8_isTold : GoodIn W_X8_dropped W_X8_isTold := fun w h => ⟨List.mem_cons_of_mem _ (List.mem_append_right _ (List.mem_append_right _ (List.mem_append_right _ (h)))), (wI_X8_isTold w h).2⟩
theorem gc_X8_dropped_120_X8_isTold : GoodIn W_X8_dropped (wsV RX8 120 RX8 yX8_isTold W_X8_isTold) := goodIn_app (goodIn_sub (List.forall_mem_cons.mpr ⟨List.mem_cons_of_mem _ (List.mem_append_left _ (List.mem_of_getElem? (i := 0) rfl)), List.forall_mem_cons.mpr ⟨List.mem_cons_of_mem _ (List.mem_append_left _ (List.mem_of_getElem? (i := 1) rfl)), List.forall_mem_cons.mpr ⟨List.mem_cons_of_mem _ (List.mem_append_left _ (List.mem_of_getElem? (i := 2) rfl)), List.forall_mem_cons.mpr ⟨List.mem_cons_of_mem _ (List.mem_append_left _ (List.mem_of_getElem? (i := 3) rfl)), fun _ h => absurd h List.not_mem_nil⟩⟩⟩⟩) (by decide +kernel)) gw_X8_dropped_X8_isTold
theorem gw_X8_drops_X8_noRule : GoodIn W_X8_drops W_X8_noRule := fun w h => ⟨List.mem_cons_of_mem _ (List.mem_append_right _ (List.mem_append_right _ (List.mem_append_right _ (List.mem_append_left _ (h))))), (wI_X8_noRule w h).2⟩
theorem gc_X8_drops_108_X8_noRule : GoodIn W_X8_drops (wsV RX8 108 RX8 yX8_noRule W_X8_noRule) := goodIn_app (goodIn_sub (List.forall_mem_cons.mpr ⟨List.mem_cons_of_mem _ (List.mem_append_left _ (List.mem_of_getElem? (i := 0) rfl)), List.forall_mem_cons.mpr ⟨List.mem_cons_of_mem _ (List.mem_append_left _ (List.mem_of_getElem? (i := 1) rfl)), List.forall_mem_cons.mpr ⟨List.mem_cons_of_mem _ (List.mem_append_left _ (List.mem_of_getElem? (i := 2) rfl)), List.forall_mem_cons.mpr ⟨List.mem_cons_of_mem _ (List.mem_append_left _ (List.mem_of_getElem? (i := 3) rfl)), fun _ h => absurd h List.not_mem_nil⟩⟩⟩⟩) (by decide +kernel)) gw_X8_drops_X8_noRule
theorem gw_X8_even_X8_noState : GoodIn W_X8_even W_X8_noState := fun w h => ⟨List.mem_cons_of_mem _ (List.mem_append_right _ (List.mem_append_right _ (List.mem_append_left _ (h)))), (wI_X8_noState w h).2⟩
theorem gc_X8_even_124_X8_noState : GoodIn W_X8_even (wsV RX8 124 RX8 yX8_noState W_X8_noState) := goodIn_app (goodIn_sub (List.forall_mem_cons.mpr ⟨List.mem_cons_of_mem _ (List.mem_append_left _ (List.mem_of_getElem? (i := 0) rfl)), List.forall_mem_cons.mpr ⟨List.mem_cons_of_mem _ (List.mem_append_left _ (List.mem_of_getElem? (i := 1) rfl)), List.forall_mem_cons.mpr ⟨List.mem_cons_of_mem _ (List.mem_append_left _ (List.mem_of_getElem? (i := 2) rfl)), List.forall_mem_cons.mpr ⟨List.mem_cons_of_mem _ (List.mem_append_left _ (List.mem_of_getElem? (i := 3) rfl)), fun _ h => absurd h List.not_mem_nil⟩⟩⟩⟩) (by decide +kernel)) gw_X8_even_X8_noState
theorem gw_X8_far_X8_noState : GoodIn W_X8_far W_X8_noState := fun w h => ⟨List.mem_cons_of_mem _ (List.mem_append_right _ (List.mem_append_right _ (List.mem_append_left _ (h)))), (wI_X8_noState w h).2⟩
theorem gc_X8_far_124_X8_noState : GoodIn W_X8_far (wsV RX8 124 RX8 yX8_noState W_X8_noState) := goodIn_app (goodIn_sub (List.forall_mem_cons.mpr ⟨List.mem_cons_of_mem _ (List.mem_append_left _ (List.mem_of_getElem? (i := 0) rfl)), List.forall_mem_cons.mpr ⟨List.mem_cons_of_mem _ (List.mem_append_left _ (List.mem_of_getElem? (i := 1) rfl)), List.forall_mem_cons.mpr ⟨List.mem_cons_of_mem _ (List.mem_append_left _ (List.mem_of_getElem? (i := 2) rfl)), List.forall_mem_cons.mpr ⟨List.mem_cons_of_mem _ (List.mem_append_left _ (List.mem_of_getElem? (i := 3) rfl)), fun _ h => absurd h List.not_mem_nil⟩⟩⟩⟩) (by decide +kernel)) gw_X8_far_X8_noState
theorem gw_X8_fewest_X8_noDepth : GoodIn W_X8_fewest W_X8_noDepth := fun w h => ⟨List.mem_cons_of_mem _ (List.mem_append_right _ (List.mem_append_right _ (List.mem_append_left _ (h)))), (wI_X8_noDepth w h).2⟩
theorem gc_X8_fewest_196_X8_noDepth : GoodIn W_X8_fewest (wsV RX8 196 RX8 yX8_noDepth W_X8_noDepth) := goodIn_app (goodIn_sub (List.forall_mem_cons.mpr ⟨List.mem_cons_of_mem _ (List.mem_append_left _ (List.mem_of_getElem? (i := 0) rfl)), List.forall_mem_cons.mpr ⟨List.mem_cons_of_mem _ (List.mem_append_left _ (List.mem_of_getElem? (i := 1) rfl)), List.forall_mem_cons.mpr ⟨List.mem_cons_of_mem _ (List.mem_append_left _ (List.mem_of_getElem? (i := 2) rfl)), List.forall_mem_cons.mpr ⟨List.mem_cons_of_mem _ (List.mem_append_left _ (List.mem_of_getElem? (i := 3) rfl)), fun _ h => absurd h List.not_mem_nil⟩⟩⟩⟩) (by decide +kernel)) gw_X8_fewest_X8_noDepth
theorem gw_X8_fine_X8_noDepth : GoodIn W_X8_fine W_X8_noDepth := fun w h => ⟨List.mem_cons_of_mem _ (List.mem_append_right _ (List.mem_append_right _ (List.mem_append_right _ (List.mem_append_left _ (h))))), (wI_X8_noDepth w h).2⟩
theorem gc_X8_fine_196_X8_noDepth : GoodIn W_X8_fine (wsV RX8 196 RX8 yX8_noDepth W_X8_noDepth) := goodIn_app (goodIn_sub (List.forall_mem_cons.mpr ⟨List.mem_cons_of_mem _ (List.mem_append_left _ (List.mem_of_getElem? (i := 0) rfl)), List.forall_mem_cons.mpr ⟨List.mem_cons_of_mem _ (List.mem_append_left _ (List.mem_of_getElem? (i := 1) rfl)), List.forall_mem_cons.mpr ⟨List.mem_cons_of_mem _ (List.mem_append_left _ (List.mem_of_getElem? (i := 2) rfl)), List.forall_mem_cons.mpr ⟨List.mem_cons_of_mem _ (List.mem_append_left _ (List.mem_of_getElem? (i := 3) rfl)), fun _ h => absurd h List.not_mem_nil⟩⟩⟩⟩) (by decide +kernel)) gw_X8_fine_X8_noDepth
theorem gw_X8_fits_X8_refusalOfRow : GoodIn W_X8_fits W_X8_refusalOfRow := fun w h => ⟨List.mem_cons_of_mem _ (List.mem_append_right _ (List.mem_append_right _ (List.mem_append_right _ (List.mem_append_left _ (h))))), (wI_X8_refusalOfRow w h).2⟩
theorem gc_X8_fits_254_X8_refusalOfRow : GoodIn W_X8_fits (wsV RX8 254 RX8 yX8_refusalOfRow W_X8_refusalOfRow) := goodIn_app (goodIn_sub (List.forall_mem_cons.mpr ⟨List.mem_cons_of_mem _ (List.mem_append_left _ (List.mem_of_getElem? (i := 0) rfl)), List.forall_mem_cons.mpr ⟨List.mem_cons_of_mem _ (List.mem_append_left _ (List.mem_of_getElem? (i := 1) rfl)), List.forall_mem_cons.mpr ⟨List.mem_cons_of_mem _ (List.mem_append_left _ (List.mem_of_getElem? (i := 2) rfl)), List.forall_mem_cons.mpr ⟨List.mem_cons_of_mem _ (List.mem_append_left _ (List.mem_of_getElem? (i := 3) rfl)), fun _ h => absurd h List.not_mem_nil⟩⟩⟩⟩) (by decide +kernel)) gw_X8_fits_X8_refusalOfRow
theorem gw_X8_freely_X8_noState : GoodIn W_X8_freely W_X8_noState := fun w h => ⟨List.mem_cons_of_mem _ (List.mem_append_right _ (List.mem_append_right _ (List.mem_append_right _ (List.mem_append_left _ (h))))), (wI_X8_noState w h).2⟩
theorem gc_X8_freely_124_X8_noState : GoodIn W_X8_freely (wsV RX8 124 RX8 yX8_noState W_X8_noState) := goodIn_app (goodIn_sub (List.forall_mem_cons.mpr ⟨List.mem_cons_of_mem _ (List.mem_append_left _ (List.mem_of_getElem? (i := 0) rfl)), List.forall_mem_cons.mpr ⟨List.mem_cons_of_mem _ (List.mem_append_left _ (List.mem_of_getElem? (i := 1) rfl)), List.forall_mem_cons.mpr ⟨List.mem_cons_of_mem _ (List.mem_append_left _ (List.mem_of_getElem? (i := 2) rfl)), List.forall_mem_cons.mpr ⟨List.mem_cons_of_mem _ (List.mem_append_left _ (List.mem_of_getElem? (i := 3) rfl)), fun _ h => absurd h List.not_mem_nil⟩⟩⟩⟩) (by decide +kernel)) gw_X8_freely_X8_noState
theorem gw_X8_frees_X8_noOp : GoodIn W_X8_frees W_X8_noOp := fun w h => ⟨List.mem_cons_of_mem _ (List.mem_append_right _ (List.mem_append_right _ (List.mem_append_right _ (List.mem_append_left _ (h))))), (wI_X8_noOp w h).2⟩
theorem gc_X8_frees_114_X8_noOp : GoodIn W_X8_frees (wsV RX8 114 RX8 yX8_noOp W_X8_noOp) := goodIn_app (goodIn_sub (List.forall_mem_cons.mpr ⟨List.mem_cons_of_mem _ (List.mem_append_left _ (List.mem_of_getElem? (i := 0) rfl)), List.forall_mem_cons.mpr ⟨List.mem_cons_of_mem _ (List.mem_append_left _ (List.mem_of_getElem? (i := 1) rfl)), List.forall_mem_cons.mpr ⟨List.mem_cons_of_mem _ (List.mem_append_left _ (List.mem_of_getElem? (i := 2) rfl)), List.forall_mem_cons.mpr ⟨List.mem_cons_of_mem _ (List.mem_append_left _ (List.mem_of_getElem? (i := 3) rfl)), fun _ h => absurd h List.not_mem_nil⟩⟩⟩⟩) (by decide +kernel)) gw_X8_frees_X8_noOp
theorem gw_X8_gets_X8_noGame : GoodIn W_X8_gets W_X8_noGame := fun w h => ⟨List.mem_cons_of_mem _ (List.mem_append_right _ (List.mem_append_right _ (List.mem_append_left _ (h)))), (wI_X8_noGame w h).2⟩
theorem gc_X8_gets_275_X8_noGame : GoodIn W_X8_gets (wsV RX8 275 RX8 yX8_noGame W_X8_noGame) := goodIn_app (goodIn_sub (List.forall_mem_cons.mpr ⟨List.mem_cons_of_mem _ (List.mem_append_left _ (List.mem_of_getElem? (i := 0) rfl)), List.forall_mem_cons.mpr ⟨List.mem_cons_of_mem _ (List.mem_append_left _ (List.mem_of_getElem? (i := 1) rfl)), List.forall_mem_cons.mpr ⟨List.mem_cons_of_mem _ (List.mem_append_left _ (List.mem_of_getElem? (i := 2) rfl)), List.forall_mem_cons.mpr ⟨List.mem_cons_of_mem _ (List.mem_append_left _ (List.mem_of_getElem? (i := 3) rfl)), fun _ h => absurd h List.not_mem_nil⟩⟩⟩⟩) (by decide +kernel)) gw_X8_gets_X8_noGame
theorem gw_X8_hard_X8_isTold : GoodIn W_X8_hard W_X8_isTold := fun w h => ⟨List.mem_cons_of_mem _ (List.mem_append_right _ (List.mem_append_right _ (List.mem_append_right _ (List.mem_append_right _ (List.mem_append_left _ (h)))))), (wI_X8_isTold w h).2⟩
theorem gc_X8_hard_120_X8_isTold : GoodIn W_X8_hard (wsV RX8 120 RX8 yX8_isTold W_X8_isTold) := goodIn_app (goodIn_sub (List.forall_mem_cons.mpr ⟨List.mem_cons_of_mem _ (List.mem_append_left _ (List.mem_of_getElem? (i := 0) rfl)), List.forall_mem_cons.mpr ⟨List.mem_cons_of_mem _ (List.mem_append_left _ (List.mem_of_getElem? (i := 1) rfl)), List.forall_mem_cons.mpr ⟨List.mem_cons_of_mem _ (List.mem_append_left _ (List.mem_of_getElem? (i := 2) rfl)), List.forall_mem_cons.mpr ⟨List.mem_cons_of_mem _ (List.mem_append_left _ (List.mem_of_getElem? (i := 3) rfl)), fun _ h => absurd h List.not_mem_nil⟩⟩⟩⟩) (by decide +kernel)) gw_X8_hard_X8_isTold
theorem gw_X8_hits_X8_noRule : GoodIn W_X8_hits W_X8_noRule := fun w h => ⟨List.mem_cons_of_mem _ (List.mem_append_right _ (List.mem_append_right _ (List.mem_append_right _ (List.mem_append_left _ (h))))), (wI_X8_noRule w h).2⟩
theorem gc_X8_hits_108_X8_noRule : GoodIn W_X8_hits (wsV RX8 108 RX8 yX8_noRule W_X8_noRule) := goodIn_app (goodIn_sub (List.forall_mem_cons.mpr ⟨List.mem_cons_of_mem _ (List.mem_append_left _ (List.mem_of_getElem? (i := 0) rfl)), List.forall_mem_cons.mpr ⟨List.mem_cons_of_mem _ (List.mem_append_left _ (List.mem_of_getElem? (i := 1) rfl)), List.forall_mem_cons.mpr ⟨List.mem_cons_of_mem _ (List.mem_append_left _ (List.mem_of_getElem? (i := 2) rfl)), List.forall_mem_cons.mpr ⟨List.mem_cons_of_mem _ (List.mem_append_left _ (List.mem_of_getElem? (i := 3) rfl)), fun _ h => absurd h List.not_mem_nil⟩⟩⟩⟩) (by decide +kernel)) gw_X8_hits_X8_noRule
theorem gw_X8_holds_X8_noRule : GoodIn W_X8_holds W_X8_noRule := fun w h => ⟨List.mem_cons_of_mem _ (List.mem_append_right _ (List.mem_append_right _ (List.mem_append_left _ (h)))), (wI_X8_noRule w h).2⟩
theorem gc_X8_holds_108_X8_noRule : GoodIn W_X8_holds (wsV RX8 108 RX8 yX8_noRule W_X8_noRule) := goodIn_app (goodIn_sub (List.forall_mem_cons.mpr ⟨List.mem_cons_of_mem _ (List.mem_append_left _ (List.mem_of_getElem? (i := 0) rfl)), List.forall_mem_cons.mpr ⟨List.mem_cons_of_mem _ (List.mem_append_left _ (List.mem_of_getElem? (i := 1) rfl)), List.forall_mem_cons.mpr ⟨List.mem_cons_of_mem _ (List.mem_append_left _ (List.mem_of_getElem? (i := 2) rfl)), List.forall_mem_cons.mpr ⟨List.mem_cons_of_mem _ (List.mem_append_left _ (List.mem_of_getElem? (i := 3) rfl)), fun _ h => absurd h List.not_mem_nil⟩⟩⟩⟩) (by decide +kernel)) gw_X8_holds_X8_noRule
theorem gw_X8_hot_X8_noDepth : GoodIn W_X8_hot W_X8_noDepth := fun w h => ⟨List.mem_cons_of_mem _ (List.mem_append_right _ (List.mem_append_right _ (List.mem_append_right _ (List.mem_append_left _ (h))))), (wI_X8_noDepth w h).2⟩
theorem gc_X8_hot_196_X8_noDepth : GoodIn W_X8_hot (wsV RX8 196 RX8 yX8_noDepth W_X8_noDepth) := goodIn_app (goodIn_sub (List.forall_mem_cons.mpr ⟨List.mem_cons_of_mem _ (List.mem_append_left _ (List.mem_of_getElem? (i := 0) rfl)), List.forall_mem_cons.mpr ⟨List.mem_cons_of_mem _ (List.mem_append_left _ (List.mem_of_getElem? (i := 1) rfl)), List.forall_mem_cons.mpr ⟨List.mem_cons_of_mem _ (List.mem_append_left _ (List.mem_of_getElem? (i := 2) rfl)), List.forall_mem_cons.mpr ⟨List.mem_cons_of_mem _ (List.mem_append_left _ (List.mem_of_getElem? (i := 3) rfl)), fun _ h => absurd h List.not_mem_nil⟩⟩⟩⟩) (by decide +kernel)) gw_X8_hot_X8_noDepth
theorem gw_X8_known_X8_noRule : GoodIn W_X8_known W_X8_noRule := fun w h => ⟨List.mem_cons_of_mem _ (List.mem_append_right _ (List.mem_append_right _ (List.mem_append_right _ (List.mem_append_left _ (h))))), (wI_X8_noRule w h).2⟩
theorem gc_X8_known_108_X8_noRule : GoodIn W_X8_known (wsV RX8 108 RX8 yX8_noRule W_X8_noRule) := goodIn_app (goodIn_sub (List.forall_mem_cons.mpr ⟨List.mem_cons_of_mem _ (List.mem_append_left _ (List.mem_of_getElem? (i := 0) rfl)), List.forall_mem_cons.mpr ⟨List.mem_cons_of_mem _ (List.mem_append_left _ (List.mem_of_getElem? (i := 1) rfl)), List.forall_mem_cons.mpr ⟨List.mem_cons_of_mem _ (List.mem_append_left _ (List.mem_of_getElem? (i := 2) rfl)), List.forall_mem_cons.mpr ⟨List.mem_cons_of_mem _ (List.mem_append_left _ (List.mem_of_getElem? (i := 3) rfl)), fun _ h => absurd h List.not_mem_nil⟩⟩⟩⟩) (by decide +kernel)) gw_X8_known_X8_noRule
theorem gw_X8_law_X8_isTold : GoodIn W_X8_law W_X8_isTold := fun w h => ⟨List.mem_cons_of_mem _ (List.mem_append_right _ (List.mem_append_right _ (List.mem_append_left _ (h)))), (wI_X8_isTold w h).2⟩
theorem gc_X8_law_120_X8_isTold : GoodIn W_X8_law (wsV RX8 120 RX8 yX8_isTold W_X8_isTold) := goodIn_app (goodIn_sub (List.forall_mem_cons.mpr ⟨List.mem_cons_of_mem _ (List.mem_append_left _ (List.mem_of_getElem? (i := 0) rfl)), List.forall_mem_cons.mpr ⟨List.mem_cons_of_mem _ (List.mem_append_left _ (List.mem_of_getElem? (i := 1) rfl)), List.forall_mem_cons.mpr ⟨List.mem_cons_of_mem _ (List.mem_append_left _ (List.mem_of_getElem? (i := 2) rfl)), List.forall_mem_cons.mpr ⟨List.mem_cons_of_mem _ (List.mem_append_left _ (List.mem_of_getElem? (i := 3) rfl)), fun _ h => absurd h List.not_mem_nil⟩⟩⟩⟩) (by decide +kernel)) gw_X8_law_X8_isTold
theorem gw_X8_laws_X8_refusalOfRow : GoodIn W_X8_laws W_X8_refusalOfRow := fun w h => ⟨List.mem_cons_of_mem _ (List.mem_append_right _ (List.mem_append_right _ (List.mem_append_left _ (h)))), (wI_X8_refusalOfRow w h).2⟩
theorem gc_X8_laws_254_X8_refusalOfRow : GoodIn W_X8_laws (wsV RX8 254 RX8 yX8_refusalOfRow W_X8_refusalOfRow) := goodIn_app (goodIn_sub (List.forall_mem_cons.mpr ⟨List.mem_cons_of_mem _ (List.mem_append_left _ (List.mem_of_getElem? (i := 0) rfl)), List.forall_mem_cons.mpr ⟨List.mem_cons_of_mem _ (List.mem_append_left _ (List.mem_of_getElem? (i := 1) rfl)), List.forall_mem_cons.mpr ⟨List.mem_cons_of_mem _ (List.mem_append_left _ (List.mem_of_getElem? (i := 2) rfl)), List.forall_mem_cons.mpr ⟨List.mem_cons_of_mem _ (List.mem_append_left _ (List.mem_of_getElem? (i := 3) rfl)), fun _ h => absurd h List.not_mem_nil⟩⟩⟩⟩) (by decide +kernel)) gw_X8_laws_X8_refusalOfRow
theorem gw_X8_least_X8_noDepth : GoodIn W_X8_least W_X8_noDepth := fun w h => ⟨List.mem_cons_of_mem _ (List.mem_append_right _ (List.mem_append_right _ (List.mem_append_right _ (List.mem_append_left _ (h))))), (wI_X8_noDepth w h).2⟩
theorem gc_X8_least_196_X8_noDepth : GoodIn W_X8_least (wsV RX8 196 RX8 yX8_noDepth W_X8_noDepth) := goodIn_app (goodIn_sub (List.forall_mem_cons.mpr ⟨List.mem_cons_of_mem _ (List.mem_append_left _ (List.mem_of_getElem? (i := 0) rfl)), List.forall_mem_cons.mpr ⟨List.mem_cons_of_mem _ (List.mem_append_left _ (List.mem_of_getElem? (i := 1) rfl)), List.forall_mem_cons.mpr ⟨List.mem_cons_of_mem _ (List.mem_append_left _ (List.mem_of_getElem? (i := 2) rfl)), List.forall_mem_cons.mpr ⟨List.mem_cons_of_mem _ (List.mem_append_left _ (List.mem_of_getElem? (i := 3) rfl)), fun _ h => absurd h List.not_mem_nil⟩⟩⟩⟩) (by decide +kernel)) gw_X8_least_X8_noDepth
theorem gw_X8_lock_X8_noOp : GoodIn W_X8_lock W_X8_noOp := fun w h => ⟨List.mem_cons_of_mem _ (List.mem_append_right _ (List.mem_append_right _ (List.mem_append_right _ (List.mem_append_left _ (h))))), (wI_X8_noOp w h).2⟩
theorem gc_X8_lock_114_X8_noOp : GoodIn W_X8_lock (wsV RX8 114 RX8 yX8_noOp W_X8_noOp) := goodIn_app (goodIn_sub (List.forall_mem_cons.mpr ⟨List.mem_cons_of_mem _ (List.mem_append_left _ (List.mem_of_getElem? (i := 0) rfl)), List.forall_mem_cons.mpr ⟨List.mem_cons_of_mem _ (List.mem_append_left _ (List.mem_of_getElem? (i := 1) rfl)), List.forall_mem_cons.mpr ⟨List.mem_cons_of_mem _ (List.mem_append_left _ (List.mem_of_getElem? (i := 2) rfl)), List.forall_mem_cons.mpr ⟨List.mem_cons_of_mem _ (List.mem_append_left _ (List.mem_of_getElem? (i := 3) rfl)), fun _ h => absurd h List.not_mem_nil⟩⟩⟩⟩) (by decide +kernel)) gw_X8_lock_X8_noOp
theorem gw_X8_locked_X8_isTold : GoodIn W_X8_locked W_X8_isTold := fun w h => ⟨List.mem_cons_of_mem _ (List.mem_append_right _ (List.mem_append_right _ (List.mem_append_right _ (h)))), (wI_X8_isTold w h).2⟩
theorem gc_X8_locked_120_X8_isTold : GoodIn W_X8_locked (wsV RX8 120 RX8 yX8_isTold W_X8_isTold) := goodIn_app (goodIn_sub (List.forall_mem_cons.mpr ⟨List.mem_cons_of_mem _ (List.mem_append_left _ (List.mem_of_getElem? (i := 0) rfl)), List.forall_mem_cons.mpr ⟨List.mem_cons_of_mem _ (List.mem_append_left _ (List.mem_of_getElem? (i := 1) rfl)), List.forall_mem_cons.mpr ⟨List.mem_cons_of_mem _ (List.mem_append_left _ (List.mem_of_getElem? (i := 2) rfl)), List.forall_mem_cons.mpr ⟨List.mem_cons_of_mem _ (List.mem_append_left _ (List.mem_of_getElem? (i := 3) rfl)), fun _ h => absurd h List.not_mem_nil⟩⟩⟩⟩) (by decide +kernel)) gw_X8_locked_X8_isTold
theorem gw_X8_locks_X8_noDepth : GoodIn W_X8_locks W_X8_noDepth := fun w h => ⟨List.mem_cons_of_mem _ (List.mem_append_right _ (List.mem_append_right _ (List.mem_append_left _ (h)))), (wI_X8_noDepth w h).2⟩
theorem gc_X8_locks_196_X8_noDepth : GoodIn W_X8_locks (wsV RX8 196 RX8 yX8_noDepth W_X8_noDepth) := goodIn_app (goodIn_sub (List.forall_mem_cons.mpr ⟨List.mem_cons_of_mem _ (List.mem_append_left _ (List.mem_of_getElem? (i := 0) rfl)), List.forall_mem_cons.mpr ⟨List.mem_cons_of_mem _ (List.mem_append_left _ (List.mem_of_getElem? (i := 1) rfl)), List.forall_mem_cons.mpr ⟨List.mem_cons_of_mem _ (List.mem_append_left _ (List.mem_of_getElem? (i := 2) rfl)), List.forall_mem_cons.mpr ⟨List.mem_cons_of_mem _ (List.mem_append_left _ (List.mem_of_getElem? (i := 3) rfl)), fun _ h => absurd h List.not_mem_nil⟩⟩⟩⟩) (by decide +kernel)) gw_X8_locks_X8_noDepth
theorem gw_X8_luck_X8_isTold : GoodIn W_X8_luck W_X8_isTold := fun w h => ⟨List.mem_cons_of_mem _ (List.mem_append_right _ (List.mem_append_right _ (List.mem_append_right _ (List.mem_append_left _ (h))))), (wI_X8_isTold w h).2⟩
theorem gc_X8_luck_120_X8_isTold : GoodIn W_X8_luck (wsV RX8 120 RX8 yX8_isTold W_X8_isTold) := goodIn_app (goodIn_sub (List.forall_mem_cons.mpr ⟨List.mem_cons_of_mem _ (List.mem_append_left _ (List.mem_of_getElem? (i := 0) rfl)), List.forall_mem_cons.mpr ⟨List.mem_cons_of_mem _ (List.mem_append_left _ (List.mem_of_getElem? (i := 1) rfl)), List.forall_mem_cons.mpr ⟨List.mem_cons_of_mem _ (List.mem_append_left _ (List.mem_of_getElem? (i := 2) rfl)), List.forall_mem_cons.mpr ⟨List.mem_cons_of_mem _ (List.mem_append_left _ (List.mem_of_getElem? (i := 3) rfl)), fun _ h => absurd h List.not_mem_nil⟩⟩⟩⟩) (by decide +kernel)) gw_X8_luck_X8_isTold
theorem gw_X8_mean_X8_isTold : GoodIn W_X8_mean W_X8_isTold := fun w h => ⟨List.mem_cons_of_mem _ (List.mem_append_right _ (List.mem_append_right _ (List.mem_append_left _ (h)))), (wI_X8_isTold w h).2⟩
theorem gc_X8_mean_120_X8_isTold : GoodIn W_X8_mean (wsV RX8 120 RX8 yX8_isTold W_X8_isTold) := goodIn_app (goodIn_sub (List.forall_mem_cons.mpr ⟨List.mem_cons_of_mem _ (List.mem_append_left _ (List.mem_of_getElem? (i := 0) rfl)), List.forall_mem_cons.mpr ⟨List.mem_cons_of_mem _ (List.mem_append_left _ (List.mem_of_getElem? (i := 1) rfl)), List.forall_mem_cons.mpr ⟨List.mem_cons_of_mem _ (List.mem_append_left _ (List.mem_of_getElem? (i := 2) rfl)), List.forall_mem_cons.mpr ⟨List.mem_cons_of_mem _ (List.mem_append_left _ (List.mem_of_getElem? (i := 3) rfl)), fun _ h => absurd h List.not_mem_nil⟩⟩⟩⟩) (by decide +kernel)) gw_X8_mean_X8_isTold
theorem gw_X8_merge_X8_noState : GoodIn W_X8_merge W_X8_noState := fun w h => ⟨List.mem_cons_of_mem _ (List.mem_append_right _ (List.mem_append_right _ (List.mem_append_left _ (h)))), (wI_X8_noState w h).2⟩
theorem gc_X8_merge_124_X8_noState : GoodIn W_X8_merge (wsV RX8 124 RX8 yX8_noState W_X8_noState) := goodIn_app (goodIn_sub (List.forall_mem_cons.mpr ⟨List.mem_cons_of_mem _ (List.mem_append_left _ (List.mem_of_getElem? (i := 0) rfl)), List.forall_mem_cons.mpr ⟨List.mem_cons_of_mem _ (List.mem_append_left _ (List.mem_of_getElem? (i := 1) rfl)), List.forall_mem_cons.mpr ⟨List.mem_cons_of_mem _ (List.mem_append_left _ (List.mem_of_getElem? (i := 2) rfl)), List.forall_mem_cons.mpr ⟨List.mem_cons_of_mem _ (List.mem_append_left _ (List.mem_of_getElem? (i := 3) rfl)), fun _ h => absurd h List.not_mem_nil⟩⟩⟩⟩) (by decide +kernel)) gw_X8_merge_X8_noState
theorem gw_X8_nearest_X8_noState : GoodIn W_X8_nearest W_X8_noState := fun w h => ⟨List.mem_cons_of_mem _ (List.mem_append_right _ (List.mem_append_right _ (List.mem_append_right _ (List.mem_append_left _ (h))))), (wI_X8_noState w h).2⟩
theorem gc_X8_nearest_124_X8_noState : GoodIn W_X8_nearest (wsV RX8 124 RX8 yX8_noState W_X8_noState) := goodIn_app (goodIn_sub (List.forall_mem_cons.mpr ⟨List.mem_cons_of_mem _ (List.mem_append_left _ (List.mem_of_getElem? (i := 0) rfl)), List.forall_mem_cons.mpr ⟨List.mem_cons_of_mem _ (List.mem_append_left _ (List.mem_of_getElem? (i := 1) rfl)), List.forall_mem_cons.mpr ⟨List.mem_cons_of_mem _ (List.mem_append_left _ (List.mem_of_getElem? (i := 2) rfl)), List.forall_mem_cons.mpr ⟨List.mem_cons_of_mem _ (List.mem_append_left _ (List.mem_of_getElem? (i := 3) rfl)), fun _ h => absurd h List.not_mem_nil⟩⟩⟩⟩) (by decide +kernel)) gw_X8_nearest_X8_noState
theorem gw_X8_needed_X8_noDepth : GoodIn W_X8_needed W_X8_noDepth := fun w h => ⟨List.mem_cons_of_mem _ (List.mem_append_right _ (List.mem_append_right _ (List.mem_append_left _ (h)))), (wI_X8_noDepth w h).2⟩
theorem gc_X8_needed_196_X8_noDepth : GoodIn W_X8_needed (wsV RX8 196 RX8 yX8_noDepth W_X8_noDepth) := goodIn_app (goodIn_sub (List.forall_mem_cons.mpr ⟨List.mem_cons_of_mem _ (List.mem_append_left _ (List.mem_of_getElem? (i := 0) rfl)), List.forall_mem_cons.mpr ⟨List.mem_cons_of_mem _ (List.mem_append_left _ (List.mem_of_getElem? (i := 1) rfl)), List.forall_mem_cons.mpr ⟨List.mem_cons_of_mem _ (List.mem_append_left _ (List.mem_of_getElem? (i := 2) rfl)), List.forall_mem_cons.mpr ⟨List.mem_cons_of_mem _ (List.mem_append_left _ (List.mem_of_getElem? (i := 3) rfl)), fun _ h => absurd h List.not_mem_nil⟩⟩⟩⟩) (by decide +kernel)) gw_X8_needed_X8_noDepth
theorem gw_X8_op_X8_noOp : GoodIn W_X8_op W_X8_noOp := fun w h => ⟨List.mem_cons_of_mem _ (List.mem_append_right _ (List.mem_append_right _ (List.mem_append_right _ (h)))), (wI_X8_noOp w h).2⟩
theorem gc_X8_op_114_X8_noOp : GoodIn W_X8_op (wsV RX8 114 RX8 yX8_noOp W_X8_noOp) := goodIn_app (goodIn_sub (List.forall_mem_cons.mpr ⟨List.mem_cons_of_mem _ (List.mem_append_left _ (List.mem_of_getElem? (i := 0) rfl)), List.forall_mem_cons.mpr ⟨List.mem_cons_of_mem _ (List.mem_append_left _ (List.mem_of_getElem? (i := 1) rfl)), List.forall_mem_cons.mpr ⟨List.mem_cons_of_mem _ (List.mem_append_left _ (List.mem_of_getElem? (i := 2) rfl)), List.forall_mem_cons.mpr ⟨List.mem_cons_of_mem _ (List.mem_append_left _ (List.mem_of_getElem? (i := 3) rfl)), fun _ h => absurd h List.not_mem_nil⟩⟩⟩⟩) (by decide +kernel)) gw_X8_op_X8_noOp
theorem gw_X8_opens_X8_noState : GoodIn W_X8_opens W_X8_noState := fun w h => ⟨List.mem_cons_of_mem _ (List.mem_append_right _ (List.mem_append_right _ (List.mem_append_left _ (h)))), (wI_X8_noState w h).2⟩
theorem gc_X8_opens_124_X8_noState : GoodIn W_X8_opens (wsV RX8 124 RX8 yX8_noState W_X8_noState) := goodIn_app (goodIn_sub (List.forall_mem_cons.mpr ⟨List.mem_cons_of_mem _ (List.mem_append_left _ (List.mem_of_getElem? (i := 0) rfl)), List.forall_mem_cons.mpr ⟨List.mem_cons_of_mem _ (List.mem_append_left _ (List.mem_of_getElem? (i := 1) rfl)), List.forall_mem_cons.mpr ⟨List.mem_cons_of_mem _ (List.mem_append_left _ (List.mem_of_getElem? (i := 2) rfl)), List.forall_mem_cons.mpr ⟨List.mem_cons_of_mem _ (List.mem_append_left _ (List.mem_of_getElem? (i := 3) rfl)), fun _ h => absurd h List.not_mem_nil⟩⟩⟩⟩) (by decide +kernel)) gw_X8_opens_X8_noState
theorem gw_X8_pairs_X8_noDepth : GoodIn W_X8_pairs W_X8_noDepth := fun w h => ⟨List.mem_cons_of_mem _ (List.mem_append_right _ (List.mem_append_right _ (List.mem_append_left _ (h)))), (wI_X8_noDepth w h).2⟩
theorem gc_X8_pairs_196_X8_noDepth : GoodIn W_X8_pairs (wsV RX8 196 RX8 yX8_noDepth W_X8_noDepth) := goodIn_app (goodIn_sub (List.forall_mem_cons.mpr ⟨List.mem_cons_of_mem _ (List.mem_append_left _ (List.mem_of_getElem? (i := 0) rfl)), List.forall_mem_cons.mpr ⟨List.mem_cons_of_mem _ (List.mem_append_left _ (List.mem_of_getElem? (i := 1) rfl)), List.forall_mem_cons.mpr ⟨List.mem_cons_of_mem _ (List.mem_append_left _ (List.mem_of_getElem? (i := 2) rfl)), List.forall_mem_cons.mpr ⟨List.mem_cons_of_mem _ (List.mem_append_left _ (List.mem_of_getElem? (i := 3) rfl)), fun _ h => absurd h List.not_mem_nil⟩⟩⟩⟩) (by decide +kernel)) gw_X8_pairs_X8_noDepth
theorem gw_X8_rate_X8_noCell : GoodIn W_X8_rate W_X8_noCell := fun w h => ⟨List.mem_cons_of_mem _ (List.mem_append_right _ (List.mem_append_right _ (List.mem_append_right _ (List.mem_append_left _ (h))))), (wI_X8_noCell w h).2⟩
theorem gc_X8_rate_100_X8_noCell : GoodIn W_X8_rate (wsV RX8 100 RX8 yX8_noCell W_X8_noCell) := goodIn_app (goodIn_sub (List.forall_mem_cons.mpr ⟨List.mem_cons_of_mem _ (List.mem_append_left _ (List.mem_of_getElem? (i := 0) rfl)), List.forall_mem_cons.mpr ⟨List.mem_cons_of_mem _ (List.mem_append_left _ (List.mem_of_getElem? (i := 1) rfl)), List.forall_mem_cons.mpr ⟨List.mem_cons_of_mem _ (List.mem_append_left _ (List.mem_of_getElem? (i := 2) rfl)), List.forall_mem_cons.mpr ⟨List.mem_cons_of_mem _ (List.mem_append_left _ (List.mem_of_getElem? (i := 3) rfl)), fun _ h => absurd h List.not_mem_nil⟩⟩⟩⟩) (by decide +kernel)) gw_X8_rate_X8_noCell
theorem gw_X8_reach_X8_noState : GoodIn W_X8_reach W_X8_noState := fun w h => ⟨List.mem_cons_of_mem _ (List.mem_append_right _ (List.mem_append_right _ (List.mem_append_left _ (h)))), (wI_X8_noState w h).2⟩
theorem gc_X8_reach_124_X8_noState : GoodIn W_X8_reach (wsV RX8 124 RX8 yX8_noState W_X8_noState) := goodIn_app (goodIn_sub (List.forall_mem_cons.mpr ⟨List.mem_cons_of_mem _ (List.mem_append_left _ (List.mem_of_getElem? (i := 0) rfl)), List.forall_mem_cons.mpr ⟨List.mem_cons_of_mem _ (List.mem_append_left _ (List.mem_of_getElem? (i := 1) rfl)), List.forall_mem_cons.mpr ⟨List.mem_cons_of_mem _ (List.mem_append_left _ (List.mem_of_getElem? (i := 2) rfl)), List.forall_mem_cons.mpr ⟨List.mem_cons_of_mem _ (List.mem_append_left _ (List.mem_of_getElem? (i := 3) rfl)), fun _ h => absurd h List.not_mem_nil⟩⟩⟩⟩) (by decide +kernel)) gw_X8_reach_X8_noState
theorem gw_X8_refusalOfRow_X8_isTold : GoodIn W_X8_refusalOfRow W_X8_isTold := fun w h => ⟨List.mem_cons_of_mem _ (List.mem_append_right _ (List.mem_append_right _ (List.mem_append_right _ (List.mem_append_right _ (List.mem_append_left _ (h)))))), (wI_X8_isTold w h).2⟩
theorem gc_X8_refusalOfRow_120_X8_isTold : GoodIn W_X8_refusalOfRow (wsV RX8 120 RX8 yX8_isTold W_X8_isTold) := goodIn_app (goodIn_sub (List.forall_mem_cons.mpr ⟨List.mem_cons_of_mem _ (List.mem_append_left _ (List.mem_of_getElem? (i := 0) rfl)), List.forall_mem_cons.mpr ⟨List.mem_cons_of_mem _ (List.mem_append_left _ (List.mem_of_getElem? (i := 1) rfl)), List.forall_mem_cons.mpr ⟨List.mem_cons_of_mem _ (List.mem_append_left _ (List.mem_of_getElem? (i := 2) rfl)), List.forall_mem_cons.mpr ⟨List.mem_cons_of_mem _ (List.mem_append_left _ (List.mem_of_getElem? (i := 3) rfl)), fun _ h => absurd h List.not_mem_nil⟩⟩⟩⟩) (by decide +kernel)) gw_X8_refusalOfRow_X8_isTold
theorem gw_X8_rests_X8_noGame : GoodIn W_X8_rests W_X8_noGame := fun w h => ⟨List.mem_cons_of_mem _ (List.mem_append_right _ (List.mem_append_right _ (List.mem_append_left _ (h)))), (wI_X8_noGame w h).2⟩
theorem gc_X8_rests_275_X8_noGame : GoodIn W_X8_rests (wsV RX8 275 RX8 yX8_noGame W_X8_noGame) := goodIn_app (goodIn_sub (List.forall_mem_cons.mpr ⟨List.mem_cons_of_mem _ (List.mem_append_left _ (List.mem_of_getElem? (i := 0) rfl)), List.forall_mem_cons.mpr ⟨List.mem_cons_of_mem _ (List.mem_append_left _ (List.mem_of_getElem? (i := 1) rfl)), List.forall_mem_cons.mpr ⟨List.mem_cons_of_mem _ (List.mem_append_left _ (List.mem_of_getElem? (i := 2) rfl)), List.forall_mem_cons.mpr ⟨List.mem_cons_of_mem _ (List.mem_append_left _ (List.mem_of_getElem? (i := 3) rfl)), fun _ h => absurd h List.not_mem_nil⟩⟩⟩⟩) (by decide +kernel)) gw_X8_rests_X8_noGame
theorem gw_X8_room_X8_noCell : GoodIn W_X8_room W_X8_noCell := fun w h => ⟨List.mem_cons_of_mem _ (List.mem_append_right _ (List.mem_append_right _ (List.mem_append_right _ (List.mem_append_left _ (h))))), (wI_X8_noCell w h).2⟩
theorem gc_X8_room_100_X8_noCell : GoodIn W_X8_room (wsV RX8 100 RX8 yX8_noCell W_X8_noCell) := goodIn_app (goodIn_sub (List.forall_mem_cons.mpr ⟨List.mem_cons_of_mem _ (List.mem_append_left _ (List.mem_of_getElem? (i := 0) rfl)), List.forall_mem_cons.mpr ⟨List.mem_cons_of_mem _ (List.mem_append_left _ (List.mem_of_getElem? (i := 1) rfl)), List.forall_mem_cons.mpr ⟨List.mem_cons_of_mem _ (List.mem_append_left _ (List.mem_of_getElem? (i := 2) rfl)), List.forall_mem_cons.mpr ⟨List.mem_cons_of_mem _ (List.mem_append_left _ (List.mem_of_getElem? (i := 3) rfl)), fun _ h => absurd h List.not_mem_nil⟩⟩⟩⟩) (by decide +kernel)) gw_X8_room_X8_noCell
theorem gw_X8_rule_X8_noRule : GoodIn W_X8_rule W_X8_noRule := fun w h => ⟨List.mem_cons_of_mem _ (List.mem_append_right _ (List.mem_append_right _ (List.mem_append_right _ (h)))), (wI_X8_noRule w h).2⟩
theorem gc_X8_rule_108_X8_noRule : GoodIn W_X8_rule (wsV RX8 108 RX8 yX8_noRule W_X8_noRule) := goodIn_app (goodIn_sub (List.forall_mem_cons.mpr ⟨List.mem_cons_of_mem _ (List.mem_append_left _ (List.mem_of_getElem? (i := 0) rfl)), List.forall_mem_cons.mpr ⟨List.mem_cons_of_mem _ (List.mem_append_left _ (List.mem_of_getElem? (i := 1) rfl)), List.forall_mem_cons.mpr ⟨List.mem_cons_of_mem _ (List.mem_append_left _ (List.mem_of_getElem? (i := 2) rfl)), List.forall_mem_cons.mpr ⟨List.mem_cons_of_mem _ (List.mem_append_left _ (List.mem_of_getElem? (i := 3) rfl)), fun _ h => absurd h List.not_mem_nil⟩⟩⟩⟩) (by decide +kernel)) gw_X8_rule_X8_noRule
theorem gw_X8_safe_X8_noDepth : GoodIn W_X8_safe W_X8_noDepth := fun w h => ⟨List.mem_cons_of_mem _ (List.mem_append_right _ (List.mem_append_right _ (List.mem_append_left _ (h)))), (wI_X8_noDepth w h).2⟩
theorem gc_X8_safe_196_X8_noDepth : GoodIn W_X8_safe (wsV RX8 196 RX8 yX8_noDepth W_X8_noDepth) := goodIn_app (goodIn_sub (List.forall_mem_cons.mpr ⟨List.mem_cons_of_mem _ (List.mem_append_left _ (List.mem_of_getElem? (i := 0) rfl)), List.forall_mem_cons.mpr ⟨List.mem_cons_of_mem _ (List.mem_append_left _ (List.mem_of_getElem? (i := 1) rfl)), List.forall_mem_cons.mpr ⟨List.mem_cons_of_mem _ (List.mem_append_left _ (List.mem_of_getElem? (i := 2) rfl)), List.forall_mem_cons.mpr ⟨List.mem_cons_of_mem _ (List.mem_append_left _ (List.mem_of_getElem? (i := 3) rfl)), fun _ h => absurd h List.not_mem_nil⟩⟩⟩⟩) (by decide +kernel)) gw_X8_safe_X8_noDepth
theorem gw_X8_share_X8_noRule : GoodIn W_X8_share W_X8_noRule := fun w h => ⟨List.mem_cons_of_mem _ (List.mem_append_right _ (List.mem_append_right _ (List.mem_append_left _ (h)))), (wI_X8_noRule w h).2⟩
theorem gc_X8_share_108_X8_noRule : GoodIn W_X8_share (wsV RX8 108 RX8 yX8_noRule W_X8_noRule) := goodIn_app (goodIn_sub (List.forall_mem_cons.mpr ⟨List.mem_cons_of_mem _ (List.mem_append_left _ (List.mem_of_getElem? (i := 0) rfl)), List.forall_mem_cons.mpr ⟨List.mem_cons_of_mem _ (List.mem_append_left _ (List.mem_of_getElem? (i := 1) rfl)), List.forall_mem_cons.mpr ⟨List.mem_cons_of_mem _ (List.mem_append_left _ (List.mem_of_getElem? (i := 2) rfl)), List.forall_mem_cons.mpr ⟨List.mem_cons_of_mem _ (List.mem_append_left _ (List.mem_of_getElem? (i := 3) rfl)), fun _ h => absurd h List.not_mem_nil⟩⟩⟩⟩) (by decide +kernel)) gw_X8_share_X8_noRule
theorem gw_X8_spare_X8_noRule : GoodIn W_X8_spare W_X8_noRule := fun w h => ⟨List.mem_cons_of_mem _ (List.mem_append_right _ (List.mem_append_right _ (List.mem_append_right _ (List.mem_append_right _ (List.mem_append_left _ (h)))))), (wI_X8_noRule w h).2⟩
theorem gc_X8_spare_108_X8_noRule : GoodIn W_X8_spare (wsV RX8 108 RX8 yX8_noRule W_X8_noRule) := goodIn_app (goodIn_sub (List.forall_mem_cons.mpr ⟨List.mem_cons_of_mem _ (List.mem_append_left _ (List.mem_of_getElem? (i := 0) rfl)), List.forall_mem_cons.mpr ⟨List.mem_cons_of_mem _ (List.mem_append_left _ (List.mem_of_getElem? (i := 1) rfl)), List.forall_mem_cons.mpr ⟨List.mem_cons_of_mem _ (List.mem_append_left _ (List.mem_of_getElem? (i := 2) rfl)), List.forall_mem_cons.mpr ⟨List.mem_cons_of_mem _ (List.mem_append_left _ (List.mem_of_getElem? (i := 3) rfl)), fun _ h => absurd h List.not_mem_nil⟩⟩⟩⟩) (by decide +kernel)) gw_X8_spare_X8_noRule
theorem gw_X8_states_X8_isTold : GoodIn W_X8_states W_X8_isTold := fun w h => ⟨List.mem_cons_of_mem _ (List.mem_append_right _ (List.mem_append_right _ (List.mem_append_right _ (h)))), (wI_X8_isTold w h).2⟩
theorem gc_X8_states_120_X8_isTold : GoodIn W_X8_states (wsV RX8 120 RX8 yX8_isTold W_X8_isTold) := goodIn_app (goodIn_sub (List.forall_mem_cons.mpr ⟨List.mem_cons_of_mem _ (List.mem_append_left _ (List.mem_of_getElem? (i := 0) rfl)), List.forall_mem_cons.mpr ⟨List.mem_cons_of_mem _ (List.mem_append_left _ (List.mem_of_getElem? (i := 1) rfl)), List.forall_mem_cons.mpr ⟨List.mem_cons_of_mem _ (List.mem_append_left _ (List.mem_of_getElem? (i := 2) rfl)), List.forall_mem_cons.mpr ⟨List.mem_cons_of_mem _ (List.mem_append_left _ (List.mem_of_getElem? (i := 3) rfl)), fun _ h => absurd h List.not_mem_nil⟩⟩⟩⟩) (by decide +kernel)) gw_X8_states_X8_isTold
theorem gw_X8_step_X8_noState : GoodIn W_X8_step W_X8_noState := fun w h => ⟨List.mem_cons_of_mem _ (List.mem_append_right _ (List.mem_append_right _ (List.mem_append_left _ (h)))), (wI_X8_noState w h).2⟩
theorem gc_X8_step_124_X8_noState : GoodIn W_X8_step (wsV RX8 124 RX8 yX8_noState W_X8_noState) := goodIn_app (goodIn_sub (List.forall_mem_cons.mpr ⟨List.mem_cons_of_mem _ (List.mem_append_left _ (List.mem_of_getElem? (i := 0) rfl)), List.forall_mem_cons.mpr ⟨List.mem_cons_of_mem _ (List.mem_append_left _ (List.mem_of_getElem? (i := 1) rfl)), List.forall_mem_cons.mpr ⟨List.mem_cons_of_mem _ (List.mem_append_left _ (List.mem_of_getElem? (i := 2) rfl)), List.forall_mem_cons.mpr ⟨List.mem_cons_of_mem _ (List.mem_append_left _ (List.mem_of_getElem? (i := 3) rfl)), fun _ h => absurd h List.not_mem_nil⟩⟩⟩⟩) (by decide +kernel)) gw_X8_step_X8_noState
theorem gw_X8_table_X8_isTold : GoodIn W_X8_table W_X8_isTold := fun w h => ⟨List.mem_cons_of_mem _ (List.mem_append_right _ (List.mem_append_right _ (List.mem_append_right _ (List.mem_append_left _ (h))))), (wI_X8_isTold w h).2⟩
theorem gc_X8_table_120_X8_isTold : GoodIn W_X8_table (wsV RX8 120 RX8 yX8_isTold W_X8_isTold) := goodIn_app (goodIn_sub (List.forall_mem_cons.mpr ⟨List.mem_cons_of_mem _ (List.mem_append_left _ (List.mem_of_getElem? (i := 0) rfl)), List.forall_mem_cons.mpr ⟨List.mem_cons_of_mem _ (List.mem_append_left _ (List.mem_of_getElem? (i := 1) rfl)), List.forall_mem_cons.mpr ⟨List.mem_cons_of_mem _ (List.mem_append_left _ (List.mem_of_getElem? (i := 2) rfl)), List.forall_mem_cons.mpr ⟨List.mem_cons_of_mem _ (List.mem_append_left _ (List.mem_of_getElem? (i := 3) rfl)), fun _ h => absurd h List.not_mem_nil⟩⟩⟩⟩) (by decide +kernel)) gw_X8_table_X8_isTold
theorem gw_X8_undo_X8_isTold : GoodIn W_X8_undo W_X8_isTold := fun w h => ⟨List.mem_cons_of_mem _ (List.mem_append_right _ (List.mem_append_right _ (List.mem_append_right _ (List.mem_append_left _ (h))))), (wI_X8_isTold w h).2⟩
theorem gc_X8_undo_120_X8_isTold : GoodIn W_X8_undo (wsV RX8 120 RX8 yX8_isTold W_X8_isTold) := goodIn_app (goodIn_sub (List.forall_mem_cons.mpr ⟨List.mem_cons_of_mem _ (List.mem_append_left _ (List.mem_of_getElem? (i := 0) rfl)), List.forall_mem_cons.mpr ⟨List.mem_cons_of_mem _ (List.mem_append_left _ (List.mem_of_getElem? (i := 1) rfl)), List.forall_mem_cons.mpr ⟨List.mem_cons_of_mem _ (List.mem_append_left _ (List.mem_of_getElem? (i := 2) rfl)), List.forall_mem_cons.mpr ⟨List.mem_cons_of_mem _ (List.mem_append_left _ (List.mem_of_getElem? (i := 3) rfl)), fun _ h => absurd h List.not_mem_nil⟩⟩⟩⟩) (by decide +kernel)) gw_X8_undo_X8_isTold
theorem gw_X8_valid_X8_noState : GoodIn W_X8_valid W_X8_noState := fun w h => ⟨List.mem_cons_of_mem _ (List.mem_append_right _ (List.mem_append_right _ (List.mem_append_left _ (h)))), (wI_X8_noState w h).2⟩
theorem gc_X8_valid_124_X8_noState : GoodIn W_X8_valid (wsV RX8 124 RX8 yX8_noState W_X8_noState) := goodIn_app (goodIn_sub (List.forall_mem_cons.mpr ⟨List.mem_cons_of_mem _ (List.mem_append_left _ (List.mem_of_getElem? (i := 0) rfl)), List.forall_mem_cons.mpr ⟨List.mem_cons_of_mem _ (List.mem_append_left _ (List.mem_of_getElem? (i := 1) rfl)), List.forall_mem_cons.mpr ⟨List.mem_cons_of_mem _ (List.mem_append_left _ (List.mem_of_getElem? (i := 2) rfl)), List.forall_mem_cons.mpr ⟨List.mem_cons_of_mem _ (List.mem_append_left _ (List.mem_of_getElem? (i := 3) rfl)), fun _ h => absurd h List.not_mem_nil⟩⟩⟩⟩) (by decide +kernel)) gw_X8_valid_X8_noState
theorem gw_X8_valids_X8_isTold : GoodIn W_X8_valids W_X8_isTold := fun w h => ⟨List.mem_cons_of_mem _ (List.mem_append_right _ (List.mem_append_right _ (List.mem_append_right _ (List.mem_append_left _ (h))))), (wI_X8_isTold w h).2⟩
theorem gc_X8_valids_120_X8_isTold : GoodIn W_X8_valids (wsV RX8 120 RX8 yX8_isTold W_X8_isTold) := goodIn_app (goodIn_sub (List.forall_mem_cons.mpr ⟨List.mem_cons_of_mem _ (List.mem_append_left _ (List.mem_of_getElem? (i := 0) rfl)), List.forall_mem_cons.mpr ⟨List.mem_cons_of_mem _ (List.mem_append_left _ (List.mem_of_getElem? (i := 1) rfl)), List.forall_mem_cons.mpr ⟨List.mem_cons_of_mem _ (List.mem_append_left _ (List.mem_of_getElem? (i := 2) rfl)), List.forall_mem_cons.mpr ⟨List.mem_cons_of_mem _ (List.mem_append_left _ (List.mem_of_getElem? (i := 3) rfl)), fun _ h => absurd h List.not_mem_nil⟩⟩⟩⟩) (by decide +kernel)) gw_X8_valids_X8_isTold
theorem gw_X8_value_X8_noState : GoodIn W_X8_value W_X8_noState := fun w h => ⟨List.mem_cons_of_mem _ (List.mem_append_right _ (List.mem_append_right _ (List.mem_append_left _ (h)))), (wI_X8_noState w h).2⟩
theorem gc_X8_value_124_X8_noState : GoodIn W_X8_value (wsV RX8 124 RX8 yX8_noState W_X8_noState) := goodIn_app (goodIn_sub (List.forall_mem_cons.mpr ⟨List.mem_cons_of_mem _ (List.mem_append_left _ (List.mem_of_getElem? (i := 0) rfl)), List.forall_mem_cons.mpr ⟨List.mem_cons_of_mem _ (List.mem_append_left _ (List.mem_of_getElem? (i := 1) rfl)), List.forall_mem_cons.mpr ⟨List.mem_cons_of_mem _ (List.mem_append_left _ (List.mem_of_getElem? (i := 2) rfl)), List.forall_mem_cons.mpr ⟨List.mem_cons_of_mem _ (List.mem_append_left _ (List.mem_of_getElem? (i := 3) rfl)), fun _ h => absurd h List.not_mem_nil⟩⟩⟩⟩) (by decide +kernel)) gw_X8_value_X8_noState
theorem gw_X8_weight_X8_noState : GoodIn W_X8_weight W_X8_noState := fun w h => ⟨List.mem_cons_of_mem _ (List.mem_append_right _ (List.mem_append_right _ (List.mem_append_right _ (List.mem_append_left _ (h))))), (wI_X8_noState w h).2⟩
theorem gc_X8_weight_124_X8_noState : GoodIn W_X8_weight (wsV RX8 124 RX8 yX8_noState W_X8_noState) := goodIn_app (goodIn_sub (List.forall_mem_cons.mpr ⟨List.mem_cons_of_mem _ (List.mem_append_left _ (List.mem_of_getElem? (i := 0) rfl)), List.forall_mem_cons.mpr ⟨List.mem_cons_of_mem _ (List.mem_append_left _ (List.mem_of_getElem? (i := 1) rfl)), List.forall_mem_cons.mpr ⟨List.mem_cons_of_mem _ (List.mem_append_left _ (List.mem_of_getElem? (i := 2) rfl)), List.forall_mem_cons.mpr ⟨List.mem_cons_of_mem _ (List.mem_append_left _ (List.mem_of_getElem? (i := 3) rfl)), fun _ h => absurd h List.not_mem_nil⟩⟩⟩⟩) (by decide +kernel)) gw_X8_weight_X8_noState
theorem gw_X8_which_X8_refusalOfRow : GoodIn W_X8_which W_X8_refusalOfRow := fun w h => ⟨List.mem_cons_of_mem _ (List.mem_append_right _ (List.mem_append_right _ (List.mem_append_right _ (List.mem_append_right _ (List.mem_append_left _ (h)))))), (wI_X8_refusalOfRow w h).2⟩
theorem gc_X8_which_254_X8_refusalOfRow : GoodIn W_X8_which (wsV RX8 254 RX8 yX8_refusalOfRow W_X8_refusalOfRow) := goodIn_app (goodIn_sub (List.forall_mem_cons.mpr ⟨List.mem_cons_of_mem _ (List.mem_append_left _ (List.mem_of_getElem? (i := 0) rfl)), List.forall_mem_cons.mpr ⟨List.mem_cons_of_mem _ (List.mem_append_left _ (List.mem_of_getElem? (i := 1) rfl)), List.forall_mem_cons.mpr ⟨List.mem_cons_of_mem _ (List.mem_append_left _ (List.mem_of_getElem? (i := 2) rfl)), List.forall_mem_cons.mpr ⟨List.mem_cons_of_mem _ (List.mem_append_left _ (List.mem_of_getElem? (i := 3) rfl)), fun _ h => absurd h List.not_mem_nil⟩⟩⟩⟩) (by decide +kernel)) gw_X8_which_X8_refusalOfRow
theorem gw_X8_works_X8_noOp : GoodIn W_X8_works W_X8_noOp := fun w h => ⟨List.mem_cons_of_mem _ (List.mem_append_right _ (List.mem_append_right _ (List.mem_append_left _ (h)))), (wI_X8_noOp w h).2⟩
theorem gc_X8_works_114_X8_noOp : GoodIn W_X8_works (wsV RX8 114 RX8 yX8_noOp W_X8_noOp) := goodIn_app (goodIn_sub (List.forall_mem_cons.mpr ⟨List.mem_cons_of_mem _ (List.mem_append_left _ (List.mem_of_getElem? (i := 0) rfl)), List.forall_mem_cons.mpr ⟨List.mem_cons_of_mem _ (List.mem_append_left _ (List.mem_of_getElem? (i := 1) rfl)), List.forall_mem_cons.mpr ⟨List.mem_cons_of_mem _ (List.mem_append_left _ (List.mem_of_getElem? (i := 2) rfl)), List.forall_mem_cons.mpr ⟨List.mem_cons_of_mem _ (List.mem_append_left _ (List.mem_of_getElem? (i := 3) rfl)), fun _ h => absurd h List.not_mem_nil⟩⟩⟩⟩) (by decide +kernel)) gw_X8_works_X8_noOp
theorem gw_X8_worst_X8_noDepth : GoodIn W_X8_worst W_X8_noDepth := fun w h => ⟨List.mem_cons_of_mem _ (List.mem_append_right _ (List.mem_append_right _ (List.mem_append_right _ (List.mem_append_right _ (List.mem_append_left _ (h)))))), (wI_X8_noDepth w h).2⟩
theorem gc_X8_worst_196_X8_noDepth : GoodIn W_X8_worst (wsV RX8 196 RX8 yX8_noDepth W_X8_noDepth) := goodIn_app (goodIn_sub (List.forall_mem_cons.mpr ⟨List.mem_cons_of_mem _ (List.mem_append_left _ (List.mem_of_getElem? (i := 0) rfl)), List.forall_mem_cons.mpr ⟨List.mem_cons_of_mem _ (List.mem_append_left _ (List.mem_of_getElem? (i := 1) rfl)), List.forall_mem_cons.mpr ⟨List.mem_cons_of_mem _ (List.mem_append_left _ (List.mem_of_getElem? (i := 2) rfl)), List.forall_mem_cons.mpr ⟨List.mem_cons_of_mem _ (List.mem_append_left _ (List.mem_of_getElem? (i := 3) rfl)), fun _ h => absurd h List.not_mem_nil⟩⟩⟩⟩) (by decide +kernel)) gw_X8_worst_X8_noDepth
theorem gw_X8_worth_X8_isTold : GoodIn W_X8_worth W_X8_isTold := fun w h => ⟨List.mem_cons_of_mem _ (List.mem_append_right _ (List.mem_append_right _ (List.mem_append_right _ (List.mem_append_left _ (h))))), (wI_X8_isTold w h).2⟩
theorem gc_X8_worth_120_X8_isTold : GoodIn W_X8_worth (wsV RX8 120 RX8 yX8_isTold W_X8_isTold) := goodIn_app (goodIn_sub (List.forall_mem_cons.mpr ⟨List.mem_cons_of_mem _ (List.mem_append_left _ (List.mem_of_getElem? (i := 0) rfl)), List.forall_mem_cons.mpr ⟨List.mem_cons_of_mem _ (List.mem_append_left _ (List.mem_of_getElem? (i := 1) rfl)), List.forall_mem_cons.mpr ⟨List.mem_cons_of_mem _ (List.mem_append_left _ (List.mem_of_getElem? (i := 2) rfl)), List.forall_mem_cons.mpr ⟨List.mem_cons_of_mem _ (List.mem_append_left _ (List.mem_of_getElem? (i := 3) rfl)), fun _ h => absurd h List.not_mem_nil⟩⟩⟩⟩) (by decide +kernel)) gw_X8_worth_X8_isTold
