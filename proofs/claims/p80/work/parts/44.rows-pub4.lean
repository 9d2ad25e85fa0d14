theorem dX8_act_0 : decode cX8_act 0 = .ok (.aload_n 0, 1) := by decide +kernel
theorem dX8_act_1 : decode cX8_act 1 = .ok (.getfield 23, 3) := by decide +kernel
theorem dX8_act_4 : decode cX8_act 4 = .ok (.getfield 304, 3) := by decide +kernel
theorem dX8_act_7 : decode cX8_act 7 = .ok (.bipush 20, 2) := by decide +kernel
theorem dX8_act_9 : decode cX8_act 9 = .ok (.if_icmp .lt 6, 3) := by decide +kernel
theorem dX8_act_12 : decode cX8_act 12 = .ok (.bipush (-5), 2) := by decide +kernel
theorem dX8_act_14 : decode cX8_act 14 = .ok (.ireturn, 1) := by decide +kernel
theorem dX8_act_15 : decode cX8_act 15 = .ok (.aload_n 0, 1) := by decide +kernel
theorem dX8_act_16 : decode cX8_act 16 = .ok (.getfield 23, 3) := by decide +kernel
theorem dX8_act_19 : decode cX8_act 19 = .ok (.iload_n 1, 1) := by decide +kernel
theorem dX8_act_20 : decode cX8_act 20 = .ok (.iload_n 2, 1) := by decide +kernel
theorem dX8_act_21 : decode cX8_act 21 = .ok (.invokevirtual 360, 3) := by decide +kernel
theorem dX8_act_24 : decode cX8_act 24 = .ok (.aload_n 0, 1) := by decide +kernel
theorem dX8_act_25 : decode cX8_act 25 = .ok (.getfield 47, 3) := by decide +kernel
theorem dX8_act_28 : decode cX8_act 28 = .ok (.invokevirtual 310, 3) := by decide +kernel
theorem dX8_act_31 : decode cX8_act 31 = .ok (.aload_n 0, 1) := by decide +kernel
theorem dX8_act_32 : decode cX8_act 32 = .ok (.getfield 47, 3) := by decide +kernel
theorem dX8_act_35 : decode cX8_act 35 = .ok (.iconst 1, 1) := by decide +kernel
theorem dX8_act_36 : decode cX8_act 36 = .ok (.invokevirtual 214, 3) := by decide +kernel
theorem dX8_act_39 : decode cX8_act 39 = .ok (.ireturn, 1) := by decide +kernel
theorem dX8_anew_0 : decode cX8_anew 0 = .ok (.aload_n 0, 1) := by decide +kernel
theorem dX8_anew_1 : decode cX8_anew 1 = .ok (.invokevirtual 120, 3) := by decide +kernel
theorem dX8_anew_4 : decode cX8_anew 4 = .ok (.ifCond .ne 6, 3) := by decide +kernel
theorem dX8_anew_7 : decode cX8_anew 7 = .ok (.bipush (-2), 2) := by decide +kernel
theorem dX8_anew_9 : decode cX8_anew 9 = .ok (.ireturn, 1) := by decide +kernel
theorem dX8_anew_10 : decode cX8_anew 10 = .ok (.aload_n 0, 1) := by decide +kernel
theorem dX8_anew_11 : decode cX8_anew 11 = .ok (.getfield 23, 3) := by decide +kernel
theorem dX8_anew_14 : decode cX8_anew 14 = .ok (.getfield 304, 3) := by decide +kernel
theorem dX8_anew_17 : decode cX8_anew 17 = .ok (.istore_n 1, 1) := by decide +kernel
theorem dX8_anew_18 : decode cX8_anew 18 = .ok (.aload_n 0, 1) := by decide +kernel
theorem dX8_anew_19 : decode cX8_anew 19 = .ok (.getfield 23, 3) := by decide +kernel
theorem dX8_anew_22 : decode cX8_anew 22 = .ok (.iconst 0, 1) := by decide +kernel
theorem dX8_anew_23 : decode cX8_anew 23 = .ok (.invokevirtual 307, 3) := by decide +kernel
theorem dX8_anew_26 : decode cX8_anew 26 = .ok (.aload_n 0, 1) := by decide +kernel
theorem dX8_anew_27 : decode cX8_anew 27 = .ok (.getfield 47, 3) := by decide +kernel
theorem dX8_anew_30 : decode cX8_anew 30 = .ok (.invokevirtual 310, 3) := by decide +kernel
theorem dX8_anew_33 : decode cX8_anew 33 = .ok (.iload_n 1, 1) := by decide +kernel
theorem dX8_anew_34 : decode cX8_anew 34 = .ok (.ireturn, 1) := by decide +kernel
theorem dX8_drops_0 : decode cX8_drops 0 = .ok (.aload_n 0, 1) := by decide +kernel
theorem dX8_drops_1 : decode cX8_drops 1 = .ok (.iload_n 1, 1) := by decide +kernel
theorem dX8_drops_2 : decode cX8_drops 2 = .ok (.invokevirtual 108, 3) := by decide +kernel
theorem dX8_drops_5 : decode cX8_drops 5 = .ok (.ifCond .eq 8, 3) := by decide +kernel
theorem dX8_drops_8 : decode cX8_drops 8 = .ok (.bipush (-2), 2) := by decide +kernel
theorem dX8_drops_10 : decode cX8_drops 10 = .ok (.goto 25, 3) := by decide +kernel
theorem dX8_drops_13 : decode cX8_drops 13 = .ok (.aload_n 0, 1) := by decide +kernel
theorem dX8_drops_14 : decode cX8_drops 14 = .ok (.aload_n 0, 1) := by decide +kernel
theorem dX8_drops_15 : decode cX8_drops 15 = .ok (.getfield 23, 3) := by decide +kernel
theorem dX8_drops_18 : decode cX8_drops 18 = .ok (.getfield 135, 3) := by decide +kernel
theorem dX8_drops_21 : decode cX8_drops 21 = .ok (.iconst 1, 1) := by decide +kernel
theorem dX8_drops_22 : decode cX8_drops 22 = .ok (.iload_n 1, 1) := by decide +kernel
theorem dX8_drops_23 : decode cX8_drops 23 = .ok (.ishl, 1) := by decide +kernel
theorem dX8_drops_24 : decode cX8_drops 24 = .ok (.ior, 1) := by decide +kernel
theorem dX8_drops_25 : decode cX8_drops 25 = .ok (.aload_n 0, 1) := by decide +kernel
theorem dX8_drops_26 : decode cX8_drops 26 = .ok (.getfield 23, 3) := by decide +kernel
theorem dX8_drops_29 : decode cX8_drops 29 = .ok (.getfield 138, 3) := by decide +kernel
theorem dX8_drops_32 : decode cX8_drops 32 = .ok (.invokevirtual 301, 3) := by decide +kernel
theorem dX8_drops_35 : decode cX8_drops 35 = .ok (.ireturn, 1) := by decide +kernel
theorem dX8_frees_0 : decode cX8_frees 0 = .ok (.aload_n 0, 1) := by decide +kernel
theorem dX8_frees_1 : decode cX8_frees 1 = .ok (.iload_n 1, 1) := by decide +kernel
theorem dX8_frees_2 : decode cX8_frees 2 = .ok (.invokevirtual 114, 3) := by decide +kernel
theorem dX8_frees_5 : decode cX8_frees 5 = .ok (.ifCond .eq 6, 3) := by decide +kernel
theorem dX8_frees_8 : decode cX8_frees 8 = .ok (.bipush (-2), 2) := by decide +kernel
theorem dX8_frees_10 : decode cX8_frees 10 = .ok (.ireturn, 1) := by decide +kernel
theorem dX8_frees_11 : decode cX8_frees 11 = .ok (.aload_n 0, 1) := by decide +kernel
theorem dX8_frees_12 : decode cX8_frees 12 = .ok (.getfield 23, 3) := by decide +kernel
theorem dX8_frees_15 : decode cX8_frees 15 = .ok (.getfield 138, 3) := by decide +kernel
theorem dX8_frees_18 : decode cX8_frees 18 = .ok (.iload_n 1, 1) := by decide +kernel
theorem dX8_frees_19 : decode cX8_frees 19 = .ok (.ishr, 1) := by decide +kernel
theorem dX8_frees_20 : decode cX8_frees 20 = .ok (.iconst 1, 1) := by decide +kernel
theorem dX8_frees_21 : decode cX8_frees 21 = .ok (.iand, 1) := by decide +kernel
theorem dX8_frees_22 : decode cX8_frees 22 = .ok (.ifCond .eq 7, 3) := by decide +kernel
theorem dX8_frees_25 : decode cX8_frees 25 = .ok (.iconst 1, 1) := by decide +kernel
theorem dX8_frees_26 : decode cX8_frees 26 = .ok (.goto 4, 3) := by decide +kernel
theorem dX8_frees_29 : decode cX8_frees 29 = .ok (.iconst 0, 1) := by decide +kernel
theorem dX8_frees_30 : decode cX8_frees 30 = .ok (.istore_n 2, 1) := by decide +kernel
theorem dX8_frees_31 : decode cX8_frees 31 = .ok (.iload_n 2, 1) := by decide +kernel
theorem dX8_frees_32 : decode cX8_frees 32 = .ok (.ifCond .ne 24, 3) := by decide +kernel
theorem dX8_frees_35 : decode cX8_frees 35 = .ok (.aload_n 0, 1) := by decide +kernel
theorem dX8_frees_36 : decode cX8_frees 36 = .ok (.getfield 23, 3) := by decide +kernel
theorem dX8_frees_39 : decode cX8_frees 39 = .ok (.getfield 304, 3) := by decide +kernel
theorem dX8_frees_42 : decode cX8_frees 42 = .ok (.bipush 20, 2) := by decide +kernel
theorem dX8_frees_44 : decode cX8_frees 44 = .ok (.if_icmp .ge 12, 3) := by decide +kernel
theorem dX8_frees_47 : decode cX8_frees 47 = .ok (.aload_n 0, 1) := by decide +kernel
theorem dX8_frees_48 : decode cX8_frees 48 = .ok (.getfield 47, 3) := by decide +kernel
theorem dX8_frees_51 : decode cX8_frees 51 = .ok (.iconst 1, 1) := by decide +kernel
theorem dX8_frees_52 : decode cX8_frees 52 = .ok (.invokevirtual 214, 3) := by decide +kernel
theorem dX8_frees_55 : decode cX8_frees 55 = .ok (.ireturn, 1) := by decide +kernel
theorem dX8_frees_56 : decode cX8_frees 56 = .ok (.aload_n 0, 1) := by decide +kernel
theorem dX8_frees_57 : decode cX8_frees 57 = .ok (.aload_n 0, 1) := by decide +kernel
theorem dX8_frees_58 : decode cX8_frees 58 = .ok (.getfield 23, 3) := by decide +kernel
theorem dX8_frees_61 : decode cX8_frees 61 = .ok (.getfield 135, 3) := by decide +kernel
theorem dX8_frees_64 : decode cX8_frees 64 = .ok (.aload_n 0, 1) := by decide +kernel
theorem dX8_frees_65 : decode cX8_frees 65 = .ok (.getfield 23, 3) := by decide +kernel
theorem dX8_frees_68 : decode cX8_frees 68 = .ok (.getfield 138, 3) := by decide +kernel
theorem dX8_frees_71 : decode cX8_frees 71 = .ok (.iconst 1, 1) := by decide +kernel
theorem dX8_frees_72 : decode cX8_frees 72 = .ok (.iload_n 1, 1) := by decide +kernel
theorem dX8_frees_73 : decode cX8_frees 73 = .ok (.ishl, 1) := by decide +kernel
theorem dX8_frees_74 : decode cX8_frees 74 = .ok (.iconst (-1), 1) := by decide +kernel
theorem dX8_frees_75 : decode cX8_frees 75 = .ok (.ixor, 1) := by decide +kernel
theorem dX8_frees_76 : decode cX8_frees 76 = .ok (.iand, 1) := by decide +kernel
theorem dX8_frees_77 : decode cX8_frees 77 = .ok (.invokevirtual 301, 3) := by decide +kernel
theorem dX8_frees_80 : decode cX8_frees 80 = .ok (.ireturn, 1) := by decide +kernel
theorem dX8_lock_0 : decode cX8_lock 0 = .ok (.aload_n 0, 1) := by decide +kernel
theorem dX8_lock_1 : decode cX8_lock 1 = .ok (.iload_n 1, 1) := by decide +kernel
theorem dX8_lock_2 : decode cX8_lock 2 = .ok (.invokevirtual 114, 3) := by decide +kernel
theorem dX8_lock_5 : decode cX8_lock 5 = .ok (.ifCond .eq 8, 3) := by decide +kernel
theorem dX8_lock_8 : decode cX8_lock 8 = .ok (.bipush (-2), 2) := by decide +kernel
theorem dX8_lock_10 : decode cX8_lock 10 = .ok (.goto 25, 3) := by decide +kernel
theorem dX8_lock_13 : decode cX8_lock 13 = .ok (.aload_n 0, 1) := by decide +kernel
theorem dX8_lock_14 : decode cX8_lock 14 = .ok (.aload_n 0, 1) := by decide +kernel
theorem dX8_lock_15 : decode cX8_lock 15 = .ok (.getfield 23, 3) := by decide +kernel
theorem dX8_lock_18 : decode cX8_lock 18 = .ok (.getfield 135, 3) := by decide +kernel
theorem dX8_lock_21 : decode cX8_lock 21 = .ok (.aload_n 0, 1) := by decide +kernel
theorem dX8_lock_22 : decode cX8_lock 22 = .ok (.getfield 23, 3) := by decide +kernel
theorem dX8_lock_25 : decode cX8_lock 25 = .ok (.getfield 138, 3) := by decide +kernel
theorem dX8_lock_28 : decode cX8_lock 28 = .ok (.iconst 1, 1) := by decide +kernel
theorem dX8_lock_29 : decode cX8_lock 29 = .ok (.iload_n 1, 1) := by decide +kernel
theorem dX8_lock_30 : decode cX8_lock 30 = .ok (.ishl, 1) := by decide +kernel
theorem dX8_lock_31 : decode cX8_lock 31 = .ok (.ior, 1) := by decide +kernel
theorem dX8_lock_32 : decode cX8_lock 32 = .ok (.invokevirtual 301, 3) := by decide +kernel
theorem dX8_lock_35 : decode cX8_lock 35 = .ok (.ireturn, 1) := by decide +kernel
theorem dX8_rate_0 : decode cX8_rate 0 = .ok (.aload_n 0, 1) := by decide +kernel
theorem dX8_rate_1 : decode cX8_rate 1 = .ok (.iload_n 1, 1) := by decide +kernel
theorem dX8_rate_2 : decode cX8_rate 2 = .ok (.invokevirtual 100, 3) := by decide +kernel
theorem dX8_rate_5 : decode cX8_rate 5 = .ok (.ifCond .ne 12, 3) := by decide +kernel
theorem dX8_rate_8 : decode cX8_rate 8 = .ok (.iload_n 2, 1) := by decide +kernel
theorem dX8_rate_9 : decode cX8_rate 9 = .ok (.ifCond .lt 8, 3) := by decide +kernel
theorem dX8_rate_12 : decode cX8_rate 12 = .ok (.iload_n 2, 1) := by decide +kernel
theorem dX8_rate_13 : decode cX8_rate 13 = .ok (.iconst 4, 1) := by decide +kernel
theorem dX8_rate_14 : decode cX8_rate 14 = .ok (.if_icmp .lt 6, 3) := by decide +kernel
theorem dX8_rate_17 : decode cX8_rate 17 = .ok (.bipush (-2), 2) := by decide +kernel
theorem dX8_rate_19 : decode cX8_rate 19 = .ok (.ireturn, 1) := by decide +kernel
theorem dX8_rate_20 : decode cX8_rate 20 = .ok (.aload_n 0, 1) := by decide +kernel
theorem dX8_rate_21 : decode cX8_rate 21 = .ok (.getfield 23, 3) := by decide +kernel
theorem dX8_rate_24 : decode cX8_rate 24 = .ok (.getfield 304, 3) := by decide +kernel
theorem dX8_rate_27 : decode cX8_rate 27 = .ok (.ifCond .le 6, 3) := by decide +kernel
theorem dX8_rate_30 : decode cX8_rate 30 = .ok (.bipush (-5), 2) := by decide +kernel
theorem dX8_rate_32 : decode cX8_rate 32 = .ok (.ireturn, 1) := by decide +kernel
theorem dX8_rate_33 : decode cX8_rate 33 = .ok (.aload_n 0, 1) := by decide +kernel
theorem dX8_rate_34 : decode cX8_rate 34 = .ok (.getfield 23, 3) := by decide +kernel
theorem dX8_rate_37 : decode cX8_rate 37 = .ok (.getfield 104, 3) := by decide +kernel
theorem dX8_rate_40 : decode cX8_rate 40 = .ok (.iload_n 1, 1) := by decide +kernel
theorem dX8_rate_41 : decode cX8_rate 41 = .ok (.iaload, 1) := by decide +kernel
theorem dX8_rate_42 : decode cX8_rate 42 = .ok (.istore_n 3, 1) := by decide +kernel
theorem dX8_rate_43 : decode cX8_rate 43 = .ok (.aload_n 0, 1) := by decide +kernel
theorem dX8_rate_44 : decode cX8_rate 44 = .ok (.getfield 23, 3) := by decide +kernel
theorem dX8_rate_47 : decode cX8_rate 47 = .ok (.getfield 104, 3) := by decide +kernel
theorem dX8_rate_50 : decode cX8_rate 50 = .ok (.iload_n 1, 1) := by decide +kernel
theorem dX8_rate_51 : decode cX8_rate 51 = .ok (.iload_n 2, 1) := by decide +kernel
theorem dX8_rate_52 : decode cX8_rate 52 = .ok (.iastore, 1) := by decide +kernel
theorem dX8_rate_53 : decode cX8_rate 53 = .ok (.aload_n 0, 1) := by decide +kernel
theorem dX8_rate_54 : decode cX8_rate 54 = .ok (.getfield 47, 3) := by decide +kernel
theorem dX8_rate_57 : decode cX8_rate 57 = .ok (.invokevirtual 310, 3) := by decide +kernel
theorem dX8_rate_60 : decode cX8_rate 60 = .ok (.iload_n 3, 1) := by decide +kernel
theorem dX8_rate_61 : decode cX8_rate 61 = .ok (.ireturn, 1) := by decide +kernel
theorem dX8_undo_0 : decode cX8_undo 0 = .ok (.aload_n 0, 1) := by decide +kernel
theorem dX8_undo_1 : decode cX8_undo 1 = .ok (.invokevirtual 120, 3) := by decide +kernel
theorem dX8_undo_4 : decode cX8_undo 4 = .ok (.ifCond .ne 6, 3) := by decide +kernel
theorem dX8_undo_7 : decode cX8_undo 7 = .ok (.bipush (-2), 2) := by decide +kernel
theorem dX8_undo_9 : decode cX8_undo 9 = .ok (.ireturn, 1) := by decide +kernel
theorem dX8_undo_10 : decode cX8_undo 10 = .ok (.aload_n 0, 1) := by decide +kernel
theorem dX8_undo_11 : decode cX8_undo 11 = .ok (.getfield 23, 3) := by decide +kernel
theorem dX8_undo_14 : decode cX8_undo 14 = .ok (.getfield 304, 3) := by decide +kernel
theorem dX8_undo_17 : decode cX8_undo 17 = .ok (.ifCond .ne 6, 3) := by decide +kernel
theorem dX8_undo_20 : decode cX8_undo 20 = .ok (.bipush (-5), 2) := by decide +kernel
theorem dX8_undo_22 : decode cX8_undo 22 = .ok (.ireturn, 1) := by decide +kernel
theorem dX8_undo_23 : decode cX8_undo 23 = .ok (.aload_n 0, 1) := by decide +kernel
theorem dX8_undo_24 : decode cX8_undo 24 = .ok (.getfield 23, 3) := by decide +kernel
theorem dX8_undo_27 : decode cX8_undo 27 = .ok (.aload_n 0, 1) := by decide +kernel
theorem dX8_undo_28 : decode cX8_undo 28 = .ok (.getfield 23, 3) := by decide +kernel
theorem dX8_undo_31 : decode cX8_undo 31 = .ok (.getfield 304, 3) := by decide +kernel
theorem dX8_undo_34 : decode cX8_undo 34 = .ok (.iconst 1, 1) := by decide +kernel
theorem dX8_undo_35 : decode cX8_undo 35 = .ok (.isub, 1) := by decide +kernel
theorem dX8_undo_36 : decode cX8_undo 36 = .ok (.invokevirtual 307, 3) := by decide +kernel
theorem dX8_undo_39 : decode cX8_undo 39 = .ok (.aload_n 0, 1) := by decide +kernel
theorem dX8_undo_40 : decode cX8_undo 40 = .ok (.getfield 47, 3) := by decide +kernel
theorem dX8_undo_43 : decode cX8_undo 43 = .ok (.invokevirtual 310, 3) := by decide +kernel
theorem dX8_undo_46 : decode cX8_undo 46 = .ok (.aload_n 0, 1) := by decide +kernel
theorem dX8_undo_47 : decode cX8_undo 47 = .ok (.getfield 23, 3) := by decide +kernel
theorem dX8_undo_50 : decode cX8_undo 50 = .ok (.getfield 304, 3) := by decide +kernel
theorem dX8_undo_53 : decode cX8_undo 53 = .ok (.ireturn, 1) := by decide +kernel
theorem iuX8_act_X0 : ∀ w ∈ u_ws RX0 TX0 15, w ∈ W_X8_act := fun w h => List.mem_cons_of_mem _ (List.mem_append_right _ (List.mem_append_right _ (List.mem_append_left _ (h))))
theorem iuX8_act_X8 : ∀ w ∈ u_ws RX8 TX8 10, w ∈ W_X8_act := fun w h => List.mem_cons_of_mem _ (List.mem_append_right _ (List.mem_append_left _ (h)))
theorem iuX8_anew_X0 : ∀ w ∈ u_ws RX0 TX0 15, w ∈ W_X8_anew := fun w h => List.mem_cons_of_mem _ (List.mem_append_right _ (List.mem_append_right _ (List.mem_append_left _ (h))))
theorem iuX8_anew_X8 : ∀ w ∈ u_ws RX8 TX8 10, w ∈ W_X8_anew := fun w h => List.mem_cons_of_mem _ (List.mem_append_right _ (List.mem_append_left _ (h)))
theorem iuX8_drops_X0 : ∀ w ∈ u_ws RX0 TX0 15, w ∈ W_X8_drops := fun w h => List.mem_cons_of_mem _ (List.mem_append_right _ (List.mem_append_right _ (List.mem_append_left _ (h))))
theorem iuX8_drops_X8 : ∀ w ∈ u_ws RX8 TX8 10, w ∈ W_X8_drops := fun w h => List.mem_cons_of_mem _ (List.mem_append_right _ (List.mem_append_left _ (h)))
theorem iuX8_frees_X0 : ∀ w ∈ u_ws RX0 TX0 15, w ∈ W_X8_frees := fun w h => List.mem_cons_of_mem _ (List.mem_append_right _ (List.mem_append_right _ (List.mem_append_left _ (h))))
theorem iuX8_frees_X8 : ∀ w ∈ u_ws RX8 TX8 10, w ∈ W_X8_frees := fun w h => List.mem_cons_of_mem _ (List.mem_append_right _ (List.mem_append_left _ (h)))
theorem iuX8_lock_X0 : ∀ w ∈ u_ws RX0 TX0 15, w ∈ W_X8_lock := fun w h => List.mem_cons_of_mem _ (List.mem_append_right _ (List.mem_append_right _ (List.mem_append_left _ (h))))
theorem iuX8_lock_X8 : ∀ w ∈ u_ws RX8 TX8 10, w ∈ W_X8_lock := fun w h => List.mem_cons_of_mem _ (List.mem_append_right _ (List.mem_append_left _ (h)))
theorem iuX8_rate_X0 : ∀ w ∈ u_ws RX0 TX0 15, w ∈ W_X8_rate := fun w h => List.mem_cons_of_mem _ (List.mem_append_right _ (List.mem_append_right _ (List.mem_append_left _ (h))))
theorem iuX8_rate_X8 : ∀ w ∈ u_ws RX8 TX8 10, w ∈ W_X8_rate := fun w h => List.mem_cons_of_mem _ (List.mem_append_right _ (List.mem_append_left _ (h)))
theorem iuX8_undo_X0 : ∀ w ∈ u_ws RX0 TX0 15, w ∈ W_X8_undo := fun w h => List.mem_cons_of_mem _ (List.mem_append_right _ (List.mem_append_right _ (List.mem_append_left _ (h))))
theorem iuX8_undo_X8 : ∀ w ∈ u_ws RX8 TX8 10, w ∈ W_X8_undo := fun w h => List.mem_cons_of_mem _ (List.mem_append_right _ (List.mem_append_left _ (h)))
theorem gw_X8_act_X2_total : GoodIn W_X8_act W_X2_total := fun w h => ⟨List.mem_cons_of_mem _ (List.mem_append_right _ (List.mem_append_right _ (List.mem_append_right _ (List.mem_append_right _ (List.mem_append_right _ (h)))))), (wI_X2_total w h).2⟩
theorem gc_X8_act_214_X2_total : GoodIn W_X8_act (wsV RX8 214 RX2 yX2_total W_X2_total) := goodIn_app (goodIn_sub (List.forall_mem_cons.mpr ⟨List.mem_cons_of_mem _ (List.mem_append_left _ (List.mem_of_getElem? (i := 11) rfl)), List.forall_mem_cons.mpr ⟨List.mem_cons_of_mem _ (List.mem_append_left _ (List.mem_of_getElem? (i := 12) rfl)), List.forall_mem_cons.mpr ⟨List.mem_cons_of_mem _ (List.mem_append_left _ (List.mem_of_getElem? (i := 13) rfl)), List.forall_mem_cons.mpr ⟨List.mem_cons_of_mem _ (List.mem_append_left _ (List.mem_of_getElem? (i := 10) rfl)), fun _ h => absurd h List.not_mem_nil⟩⟩⟩⟩) (by decide +kernel)) gw_X8_act_X2_total
theorem gw_X8_act_X2_asTold : GoodIn W_X8_act W_X2_asTold := fun w h => ⟨List.mem_cons_of_mem _ (List.mem_append_right _ (List.mem_append_right _ (List.mem_append_right _ (List.mem_append_right _ (List.mem_append_left _ (h)))))), (wI_X2_asTold w h).2⟩
theorem gc_X8_act_310_X2_asTold : GoodIn W_X8_act (wsV RX8 310 RX2 yX2_asTold W_X2_asTold) := goodIn_app (goodIn_sub (List.forall_mem_cons.mpr ⟨List.mem_cons_of_mem _ (List.mem_append_left _ (List.mem_of_getElem? (i := 7) rfl)), List.forall_mem_cons.mpr ⟨List.mem_cons_of_mem _ (List.mem_append_left _ (List.mem_of_getElem? (i := 8) rfl)), List.forall_mem_cons.mpr ⟨List.mem_cons_of_mem _ (List.mem_append_left _ (List.mem_of_getElem? (i := 9) rfl)), List.forall_mem_cons.mpr ⟨List.mem_cons_of_mem _ (List.mem_append_left _ (List.mem_of_getElem? (i := 10) rfl)), fun _ h => absurd h List.not_mem_nil⟩⟩⟩⟩) (by decide +kernel)) gw_X8_act_X2_asTold
theorem gw_X8_act_X0_act : GoodIn W_X8_act W_X0_act := fun w h => ⟨List.mem_cons_of_mem _ (List.mem_append_right _ (List.mem_append_right _ (List.mem_append_right _ (List.mem_append_left _ (h))))), (wI_X0_act w h).2⟩
theorem gc_X8_act_360_X0_act : GoodIn W_X8_act (wsV RX8 360 RX0 yX0_act W_X0_act) := goodIn_app (goodIn_sub (List.forall_mem_cons.mpr ⟨List.mem_cons_of_mem _ (List.mem_append_left _ (List.mem_of_getElem? (i := 2) rfl)), List.forall_mem_cons.mpr ⟨List.mem_cons_of_mem _ (List.mem_append_left _ (List.mem_of_getElem? (i := 3) rfl)), List.forall_mem_cons.mpr ⟨List.mem_cons_of_mem _ (List.mem_append_left _ (List.mem_of_getElem? (i := 4) rfl)), List.forall_mem_cons.mpr ⟨List.mem_cons_of_mem _ (List.mem_append_left _ (List.mem_of_getElem? (i := 5) rfl)), fun _ h => absurd h List.not_mem_nil⟩⟩⟩⟩) (by decide +kernel)) gw_X8_act_X0_act
theorem gw_X8_anew_X8_isTold : GoodIn W_X8_anew W_X8_isTold := fun w h => ⟨List.mem_cons_of_mem _ (List.mem_append_right _ (List.mem_append_right _ (List.mem_append_right _ (List.mem_append_left _ (h))))), (wI_X8_isTold w h).2⟩
theorem gc_X8_anew_120_X8_isTold : GoodIn W_X8_anew (wsV RX8 120 RX8 yX8_isTold W_X8_isTold) := goodIn_app (goodIn_sub (List.forall_mem_cons.mpr ⟨List.mem_cons_of_mem _ (List.mem_append_left _ (List.mem_of_getElem? (i := 0) rfl)), List.forall_mem_cons.mpr ⟨List.mem_cons_of_mem _ (List.mem_append_left _ (List.mem_of_getElem? (i := 1) rfl)), List.forall_mem_cons.mpr ⟨List.mem_cons_of_mem _ (List.mem_append_left _ (List.mem_of_getElem? (i := 2) rfl)), List.forall_mem_cons.mpr ⟨List.mem_cons_of_mem _ (List.mem_append_left _ (List.mem_of_getElem? (i := 3) rfl)), fun _ h => absurd h List.not_mem_nil⟩⟩⟩⟩) (by decide +kernel)) gw_X8_anew_X8_isTold
theorem gw_X8_anew_X0_takeBackTo : GoodIn W_X8_anew W_X0_takeBackTo := fun w h => ⟨List.mem_cons_of_mem _ (List.mem_append_right _ (List.mem_append_right _ (List.mem_append_right _ (List.mem_append_right _ (List.mem_append_left _ (h)))))), (wI_X0_takeBackTo w h).2⟩
theorem gc_X8_anew_307_X0_takeBackTo : GoodIn W_X8_anew (wsV RX8 307 RX0 yX0_takeBackTo W_X0_takeBackTo) := goodIn_app (goodIn_sub (List.forall_mem_cons.mpr ⟨List.mem_cons_of_mem _ (List.mem_append_left _ (List.mem_of_getElem? (i := 6) rfl)), List.forall_mem_cons.mpr ⟨List.mem_cons_of_mem _ (List.mem_append_left _ (List.mem_of_getElem? (i := 7) rfl)), List.forall_mem_cons.mpr ⟨List.mem_cons_of_mem _ (List.mem_append_left _ (List.mem_of_getElem? (i := 8) rfl)), List.forall_mem_cons.mpr ⟨List.mem_cons_of_mem _ (List.mem_append_left _ (List.mem_of_getElem? (i := 9) rfl)), fun _ h => absurd h List.not_mem_nil⟩⟩⟩⟩) (by decide +kernel)) gw_X8_anew_X0_takeBackTo
theorem gw_X8_anew_X2_asTold : GoodIn W_X8_anew W_X2_asTold := fun w h => ⟨List.mem_cons_of_mem _ (List.mem_append_right _ (List.mem_append_right _ (List.mem_append_right _ (List.mem_append_right _ (List.mem_append_right _ (h)))))), (wI_X2_asTold w h).2⟩
theorem gc_X8_anew_310_X2_asTold : GoodIn W_X8_anew (wsV RX8 310 RX2 yX2_asTold W_X2_asTold) := goodIn_app (goodIn_sub (List.forall_mem_cons.mpr ⟨List.mem_cons_of_mem _ (List.mem_append_left _ (List.mem_of_getElem? (i := 11) rfl)), List.forall_mem_cons.mpr ⟨List.mem_cons_of_mem _ (List.mem_append_left _ (List.mem_of_getElem? (i := 12) rfl)), List.forall_mem_cons.mpr ⟨List.mem_cons_of_mem _ (List.mem_append_left _ (List.mem_of_getElem? (i := 13) rfl)), List.forall_mem_cons.mpr ⟨List.mem_cons_of_mem _ (List.mem_append_left _ (List.mem_of_getElem? (i := 14) rfl)), fun _ h => absurd h List.not_mem_nil⟩⟩⟩⟩) (by decide +kernel)) gw_X8_anew_X2_asTold
theorem gw_X8_drops_X8_noRule : GoodIn W_X8_drops W_X8_noRule := fun w h => ⟨List.mem_cons_of_mem _ (List.mem_append_right _ (List.mem_append_right _ (List.mem_append_right _ (List.mem_append_left _ (h))))), (wI_X8_noRule w h).2⟩
theorem gc_X8_drops_108_X8_noRule : GoodIn W_X8_drops (wsV RX8 108 RX8 yX8_noRule W_X8_noRule) := goodIn_app (goodIn_sub (List.forall_mem_cons.mpr ⟨List.mem_cons_of_mem _ (List.mem_append_left _ (List.mem_of_getElem? (i := 0) rfl)), List.forall_mem_cons.mpr ⟨List.mem_cons_of_mem _ (List.mem_append_left _ (List.mem_of_getElem? (i := 1) rfl)), List.forall_mem_cons.mpr ⟨List.mem_cons_of_mem _ (List.mem_append_left _ (List.mem_of_getElem? (i := 2) rfl)), List.forall_mem_cons.mpr ⟨List.mem_cons_of_mem _ (List.mem_append_left _ (List.mem_of_getElem? (i := 3) rfl)), fun _ h => absurd h List.not_mem_nil⟩⟩⟩⟩) (by decide +kernel)) gw_X8_drops_X8_noRule
theorem gw_X8_drops_X8_act : GoodIn W_X8_drops W_X8_act := fun w h => ⟨List.mem_cons_of_mem _ (List.mem_append_right _ (List.mem_append_right _ (List.mem_append_right _ (List.mem_append_right _ (h))))), (wI_X8_act w h).2⟩
theorem gc_X8_drops_301_X8_act : GoodIn W_X8_drops (wsV RX8 301 RX8 yX8_act W_X8_act) := goodIn_app (goodIn_sub (List.forall_mem_cons.mpr ⟨List.mem_cons_of_mem _ (List.mem_append_left _ (List.mem_of_getElem? (i := 7) rfl)), List.forall_mem_cons.mpr ⟨List.mem_cons_of_mem _ (List.mem_append_left _ (List.mem_of_getElem? (i := 8) rfl)), List.forall_mem_cons.mpr ⟨List.mem_cons_of_mem _ (List.mem_append_left _ (List.mem_of_getElem? (i := 9) rfl)), List.forall_mem_cons.mpr ⟨List.mem_cons_of_mem _ (List.mem_append_left _ (List.mem_of_getElem? (i := 3) rfl)), fun _ h => absurd h List.not_mem_nil⟩⟩⟩⟩) (by decide +kernel)) gw_X8_drops_X8_act
theorem gw_X8_frees_X8_noOp : GoodIn W_X8_frees W_X8_noOp := fun w h => ⟨List.mem_cons_of_mem _ (List.mem_append_right _ (List.mem_append_right _ (List.mem_append_right _ (List.mem_append_left _ (h))))), (wI_X8_noOp w h).2⟩
theorem gc_X8_frees_114_X8_noOp : GoodIn W_X8_frees (wsV RX8 114 RX8 yX8_noOp W_X8_noOp) := goodIn_app (goodIn_sub (List.forall_mem_cons.mpr ⟨List.mem_cons_of_mem _ (List.mem_append_left _ (List.mem_of_getElem? (i := 0) rfl)), List.forall_mem_cons.mpr ⟨List.mem_cons_of_mem _ (List.mem_append_left _ (List.mem_of_getElem? (i := 1) rfl)), List.forall_mem_cons.mpr ⟨List.mem_cons_of_mem _ (List.mem_append_left _ (List.mem_of_getElem? (i := 2) rfl)), List.forall_mem_cons.mpr ⟨List.mem_cons_of_mem _ (List.mem_append_left _ (List.mem_of_getElem? (i := 3) rfl)), fun _ h => absurd h List.not_mem_nil⟩⟩⟩⟩) (by decide +kernel)) gw_X8_frees_X8_noOp
theorem gw_X8_frees_X2_total : GoodIn W_X8_frees W_X2_total := fun w h => ⟨List.mem_cons_of_mem _ (List.mem_append_right _ (List.mem_append_right _ (List.mem_append_right _ (List.mem_append_right _ (List.mem_append_left _ (h)))))), (wI_X2_total w h).2⟩
theorem gc_X8_frees_214_X2_total : GoodIn W_X8_frees (wsV RX8 214 RX2 yX2_total W_X2_total) := goodIn_app (goodIn_sub (List.forall_mem_cons.mpr ⟨List.mem_cons_of_mem _ (List.mem_append_left _ (List.mem_of_getElem? (i := 8) rfl)), List.forall_mem_cons.mpr ⟨List.mem_cons_of_mem _ (List.mem_append_left _ (List.mem_of_getElem? (i := 9) rfl)), List.forall_mem_cons.mpr ⟨List.mem_cons_of_mem _ (List.mem_append_left _ (List.mem_of_getElem? (i := 10) rfl)), List.forall_mem_cons.mpr ⟨List.mem_cons_of_mem _ (List.mem_append_left _ (List.mem_of_getElem? (i := 11) rfl)), fun _ h => absurd h List.not_mem_nil⟩⟩⟩⟩) (by decide +kernel)) gw_X8_frees_X2_total
theorem gw_X8_frees_X8_act : GoodIn W_X8_frees W_X8_act := fun w h => ⟨List.mem_cons_of_mem _ (List.mem_append_right _ (List.mem_append_right _ (List.mem_append_right _ (List.mem_append_right _ (List.mem_append_right _ (h)))))), (wI_X8_act w h).2⟩
theorem gc_X8_frees_301_X8_act : GoodIn W_X8_frees (wsV RX8 301 RX8 yX8_act W_X8_act) := goodIn_app (goodIn_sub (List.forall_mem_cons.mpr ⟨List.mem_cons_of_mem _ (List.mem_append_left _ (List.mem_of_getElem? (i := 13) rfl)), List.forall_mem_cons.mpr ⟨List.mem_cons_of_mem _ (List.mem_append_left _ (List.mem_of_getElem? (i := 14) rfl)), List.forall_mem_cons.mpr ⟨List.mem_cons_of_mem _ (List.mem_append_left _ (List.mem_of_getElem? (i := 15) rfl)), List.forall_mem_cons.mpr ⟨List.mem_cons_of_mem _ (List.mem_append_left _ (List.mem_of_getElem? (i := 3) rfl)), fun _ h => absurd h List.not_mem_nil⟩⟩⟩⟩) (by decide +kernel)) gw_X8_frees_X8_act
theorem gw_X8_lock_X8_noOp : GoodIn W_X8_lock W_X8_noOp := fun w h => ⟨List.mem_cons_of_mem _ (List.mem_append_right _ (List.mem_append_right _ (List.mem_append_right _ (List.mem_append_left _ (h))))), (wI_X8_noOp w h).2⟩
theorem gc_X8_lock_114_X8_noOp : GoodIn W_X8_lock (wsV RX8 114 RX8 yX8_noOp W_X8_noOp) := goodIn_app (goodIn_sub (List.forall_mem_cons.mpr ⟨List.mem_cons_of_mem _ (List.mem_append_left _ (List.mem_of_getElem? (i := 0) rfl)), List.forall_mem_cons.mpr ⟨List.mem_cons_of_mem _ (List.mem_append_left _ (List.mem_of_getElem? (i := 1) rfl)), List.forall_mem_cons.mpr ⟨List.mem_cons_of_mem _ (List.mem_append_left _ (List.mem_of_getElem? (i := 2) rfl)), List.forall_mem_cons.mpr ⟨List.mem_cons_of_mem _ (List.mem_append_left _ (List.mem_of_getElem? (i := 3) rfl)), fun _ h => absurd h List.not_mem_nil⟩⟩⟩⟩) (by decide +kernel)) gw_X8_lock_X8_noOp
theorem gw_X8_lock_X8_act : GoodIn W_X8_lock W_X8_act := fun w h => ⟨List.mem_cons_of_mem _ (List.mem_append_right _ (List.mem_append_right _ (List.mem_append_right _ (List.mem_append_right _ (h))))), (wI_X8_act w h).2⟩
theorem gc_X8_lock_301_X8_act : GoodIn W_X8_lock (wsV RX8 301 RX8 yX8_act W_X8_act) := goodIn_app (goodIn_sub (List.forall_mem_cons.mpr ⟨List.mem_cons_of_mem _ (List.mem_append_left _ (List.mem_of_getElem? (i := 7) rfl)), List.forall_mem_cons.mpr ⟨List.mem_cons_of_mem _ (List.mem_append_left _ (List.mem_of_getElem? (i := 8) rfl)), List.forall_mem_cons.mpr ⟨List.mem_cons_of_mem _ (List.mem_append_left _ (List.mem_of_getElem? (i := 9) rfl)), List.forall_mem_cons.mpr ⟨List.mem_cons_of_mem _ (List.mem_append_left _ (List.mem_of_getElem? (i := 3) rfl)), fun _ h => absurd h List.not_mem_nil⟩⟩⟩⟩) (by decide +kernel)) gw_X8_lock_X8_act
theorem gw_X8_rate_X8_noCell : GoodIn W_X8_rate W_X8_noCell := fun w h => ⟨List.mem_cons_of_mem _ (List.mem_append_right _ (List.mem_append_right _ (List.mem_append_right _ (List.mem_append_left _ (h))))), (wI_X8_noCell w h).2⟩
theorem gc_X8_rate_100_X8_noCell : GoodIn W_X8_rate (wsV RX8 100 RX8 yX8_noCell W_X8_noCell) := goodIn_app (goodIn_sub (List.forall_mem_cons.mpr ⟨List.mem_cons_of_mem _ (List.mem_append_left _ (List.mem_of_getElem? (i := 0) rfl)), List.forall_mem_cons.mpr ⟨List.mem_cons_of_mem _ (List.mem_append_left _ (List.mem_of_getElem? (i := 1) rfl)), List.forall_mem_cons.mpr ⟨List.mem_cons_of_mem _ (List.mem_append_left _ (List.mem_of_getElem? (i := 2) rfl)), List.forall_mem_cons.mpr ⟨List.mem_cons_of_mem _ (List.mem_append_left _ (List.mem_of_getElem? (i := 3) rfl)), fun _ h => absurd h List.not_mem_nil⟩⟩⟩⟩) (by decide +kernel)) gw_X8_rate_X8_noCell
theorem gw_X8_rate_X2_asTold : GoodIn W_X8_rate W_X2_asTold := fun w h => ⟨List.mem_cons_of_mem _ (List.mem_append_right _ (List.mem_append_right _ (List.mem_append_right _ (List.mem_append_right _ (h))))), (wI_X2_asTold w h).2⟩
theorem gc_X8_rate_310_X2_asTold : GoodIn W_X8_rate (wsV RX8 310 RX2 yX2_asTold W_X2_asTold) := goodIn_app (goodIn_sub (List.forall_mem_cons.mpr ⟨List.mem_cons_of_mem _ (List.mem_append_left _ (List.mem_of_getElem? (i := 8) rfl)), List.forall_mem_cons.mpr ⟨List.mem_cons_of_mem _ (List.mem_append_left _ (List.mem_of_getElem? (i := 9) rfl)), List.forall_mem_cons.mpr ⟨List.mem_cons_of_mem _ (List.mem_append_left _ (List.mem_of_getElem? (i := 10) rfl)), List.forall_mem_cons.mpr ⟨List.mem_cons_of_mem _ (List.mem_append_left _ (List.mem_of_getElem? (i := 11) rfl)), fun _ h => absurd h List.not_mem_nil⟩⟩⟩⟩) (by decide +kernel)) gw_X8_rate_X2_asTold
theorem gw_X8_undo_X8_isTold : GoodIn W_X8_undo W_X8_isTold := fun w h => ⟨List.mem_cons_of_mem _ (List.mem_append_right _ (List.mem_append_right _ (List.mem_append_right _ (List.mem_append_left _ (h))))), (wI_X8_isTold w h).2⟩
theorem gc_X8_undo_120_X8_isTold : GoodIn W_X8_undo (wsV RX8 120 RX8 yX8_isTold W_X8_isTold) := goodIn_app (goodIn_sub (List.forall_mem_cons.mpr ⟨List.mem_cons_of_mem _ (List.mem_append_left _ (List.mem_of_getElem? (i := 0) rfl)), List.forall_mem_cons.mpr ⟨List.mem_cons_of_mem _ (List.mem_append_left _ (List.mem_of_getElem? (i := 1) rfl)), List.forall_mem_cons.mpr ⟨List.mem_cons_of_mem _ (List.mem_append_left _ (List.mem_of_getElem? (i := 2) rfl)), List.forall_mem_cons.mpr ⟨List.mem_cons_of_mem _ (List.mem_append_left _ (List.mem_of_getElem? (i := 3) rfl)), fun _ h => absurd h List.not_mem_nil⟩⟩⟩⟩) (by decide +kernel)) gw_X8_undo_X8_isTold
theorem gw_X8_undo_X0_takeBackTo : GoodIn W_X8_undo W_X0_takeBackTo := fun w h => ⟨List.mem_cons_of_mem _ (List.mem_append_right _ (List.mem_append_right _ (List.mem_append_right _ (List.mem_append_right _ (List.mem_append_left _ (h)))))), (wI_X0_takeBackTo w h).2⟩
theorem gc_X8_undo_307_X0_takeBackTo : GoodIn W_X8_undo (wsV RX8 307 RX0 yX0_takeBackTo W_X0_takeBackTo) := goodIn_app (goodIn_sub (List.forall_mem_cons.mpr ⟨List.mem_cons_of_mem _ (List.mem_append_left _ (List.mem_of_getElem? (i := 6) rfl)), List.forall_mem_cons.mpr ⟨List.mem_cons_of_mem _ (List.mem_append_left _ (List.mem_of_getElem? (i := 7) rfl)), List.forall_mem_cons.mpr ⟨List.mem_cons_of_mem _ (List.mem_append_left _ (List.mem_of_getElem? (i := 8) rfl)), List.forall_mem_cons.mpr ⟨List.mem_cons_of_mem _ (List.mem_append_left _ (List.mem_of_getElem? (i := 9) rfl)), fun _ h => absurd h List.not_mem_nil⟩⟩⟩⟩) (by decide +kernel)) gw_X8_undo_X0_takeBackTo
theorem gw_X8_undo_X2_asTold : GoodIn W_X8_undo W_X2_asTold := fun w h => ⟨List.mem_cons_of_mem _ (List.mem_append_right _ (List.mem_append_right _ (List.mem_append_right _ (List.mem_append_right _ (List.mem_append_right _ (h)))))), (wI_X2_asTold w h).2⟩
theorem gc_X8_undo_310_X2_asTold : GoodIn W_X8_undo (wsV RX8 310 RX2 yX2_asTold W_X2_asTold) := goodIn_app (goodIn_sub (List.forall_mem_cons.mpr ⟨List.mem_cons_of_mem _ (List.mem_append_left _ (List.mem_of_getElem? (i := 11) rfl)), List.forall_mem_cons.mpr ⟨List.mem_cons_of_mem _ (List.mem_append_left _ (List.mem_of_getElem? (i := 12) rfl)), List.forall_mem_cons.mpr ⟨List.mem_cons_of_mem _ (List.mem_append_left _ (List.mem_of_getElem? (i := 13) rfl)), List.forall_mem_cons.mpr ⟨List.mem_cons_of_mem _ (List.mem_append_left _ (List.mem_of_getElem? (i := 14) rfl)), fun _ h => absurd h List.not_mem_nil⟩⟩⟩⟩) (by decide +kernel)) gw_X8_undo_X2_asTold
