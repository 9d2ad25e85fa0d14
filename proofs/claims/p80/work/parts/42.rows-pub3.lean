theorem dX8_chance_0 : decode cX8_chance 0 = .ok (.aload_n 0, 1) := by decide +kernel
theorem dX8_chance_1 : decode cX8_chance 1 = .ok (.invokevirtual 120, 3) := by decide +kernel
theorem dX8_chance_4 : decode cX8_chance 4 = .ok (.ifCond .eq 12, 3) := by decide +kernel
theorem dX8_chance_7 : decode cX8_chance 7 = .ok (.iload_n 1, 1) := by decide +kernel
theorem dX8_chance_8 : decode cX8_chance 8 = .ok (.ifCond .lt 8, 3) := by decide +kernel
theorem dX8_chance_11 : decode cX8_chance 11 = .ok (.iload_n 1, 1) := by decide +kernel
theorem dX8_chance_12 : decode cX8_chance 12 = .ok (.iconst 1, 1) := by decide +kernel
theorem dX8_chance_13 : decode cX8_chance 13 = .ok (.if_icmp .le 9, 3) := by decide +kernel
theorem dX8_chance_16 : decode cX8_chance 16 = .ok (.ldc2_w 285, 3) := by decide +kernel
theorem dX8_chance_19 : decode cX8_chance 19 = .ok (.goto 11, 3) := by decide +kernel
theorem dX8_chance_22 : decode cX8_chance 22 = .ok (.aload_n 0, 1) := by decide +kernel
theorem dX8_chance_23 : decode cX8_chance 23 = .ok (.getfield 56, 3) := by decide +kernel
theorem dX8_chance_26 : decode cX8_chance 26 = .ok (.iload_n 1, 1) := by decide +kernel
theorem dX8_chance_27 : decode cX8_chance 27 = .ok (.invokevirtual 287, 3) := by decide +kernel
theorem dX8_chance_30 : decode cX8_chance 30 = .ok (.lreturn, 1) := by decide +kernel
theorem dX8_drawn_0 : decode cX8_drawn 0 = .ok (.aload_n 0, 1) := by decide +kernel
theorem dX8_drawn_1 : decode cX8_drawn 1 = .ok (.invokevirtual 120, 3) := by decide +kernel
theorem dX8_drawn_4 : decode cX8_drawn 4 = .ok (.ifCond .eq 23, 3) := by decide +kernel
theorem dX8_drawn_7 : decode cX8_drawn 7 = .ok (.iload_n 1, 1) := by decide +kernel
theorem dX8_drawn_8 : decode cX8_drawn 8 = .ok (.ifCond .lt 19, 3) := by decide +kernel
theorem dX8_drawn_11 : decode cX8_drawn 11 = .ok (.iload_n 1, 1) := by decide +kernel
theorem dX8_drawn_12 : decode cX8_drawn 12 = .ok (.ldc_w 294, 3) := by decide +kernel
theorem dX8_drawn_15 : decode cX8_drawn 15 = .ok (.if_icmp .gt 12, 3) := by decide +kernel
theorem dX8_drawn_18 : decode cX8_drawn 18 = .ok (.iload_n 2, 1) := by decide +kernel
theorem dX8_drawn_19 : decode cX8_drawn 19 = .ok (.ifCond .lt 8, 3) := by decide +kernel
theorem dX8_drawn_22 : decode cX8_drawn 22 = .ok (.iload_n 2, 1) := by decide +kernel
theorem dX8_drawn_23 : decode cX8_drawn 23 = .ok (.iconst 1, 1) := by decide +kernel
theorem dX8_drawn_24 : decode cX8_drawn 24 = .ok (.if_icmp .le 6, 3) := by decide +kernel
theorem dX8_drawn_27 : decode cX8_drawn 27 = .ok (.bipush (-2), 2) := by decide +kernel
theorem dX8_drawn_29 : decode cX8_drawn 29 = .ok (.ireturn, 1) := by decide +kernel
theorem dX8_drawn_30 : decode cX8_drawn 30 = .ok (.aload_n 0, 1) := by decide +kernel
theorem dX8_drawn_31 : decode cX8_drawn 31 = .ok (.getfield 56, 3) := by decide +kernel
theorem dX8_drawn_34 : decode cX8_drawn 34 = .ok (.iload_n 1, 1) := by decide +kernel
theorem dX8_drawn_35 : decode cX8_drawn 35 = .ok (.i2l, 1) := by decide +kernel
theorem dX8_drawn_36 : decode cX8_drawn 36 = .ok (.invokevirtual 295, 3) := by decide +kernel
theorem dX8_drawn_39 : decode cX8_drawn 39 = .ok (.istore_n 3, 1) := by decide +kernel
theorem dX8_drawn_40 : decode cX8_drawn 40 = .ok (.iload_n 2, 1) := by decide +kernel
theorem dX8_drawn_41 : decode cX8_drawn 41 = .ok (.ifCond .ne 7, 3) := by decide +kernel
theorem dX8_drawn_44 : decode cX8_drawn 44 = .ok (.iload_n 3, 1) := by decide +kernel
theorem dX8_drawn_45 : decode cX8_drawn 45 = .ok (.goto 26, 3) := by decide +kernel
theorem dX8_drawn_48 : decode cX8_drawn 48 = .ok (.aload_n 0, 1) := by decide +kernel
theorem dX8_drawn_49 : decode cX8_drawn 49 = .ok (.getfield 47, 3) := by decide +kernel
theorem dX8_drawn_52 : decode cX8_drawn 52 = .ok (.aload_n 0, 1) := by decide +kernel
theorem dX8_drawn_53 : decode cX8_drawn 53 = .ok (.getfield 23, 3) := by decide +kernel
theorem dX8_drawn_56 : decode cX8_drawn 56 = .ok (.getfield 135, 3) := by decide +kernel
theorem dX8_drawn_59 : decode cX8_drawn 59 = .ok (.iload_n 3, 1) := by decide +kernel
theorem dX8_drawn_60 : decode cX8_drawn 60 = .ok (.ior, 1) := by decide +kernel
theorem dX8_drawn_61 : decode cX8_drawn 61 = .ok (.aload_n 0, 1) := by decide +kernel
theorem dX8_drawn_62 : decode cX8_drawn 62 = .ok (.getfield 23, 3) := by decide +kernel
theorem dX8_drawn_65 : decode cX8_drawn 65 = .ok (.getfield 138, 3) := by decide +kernel
theorem dX8_drawn_68 : decode cX8_drawn 68 = .ok (.invokevirtual 248, 3) := by decide +kernel
theorem dX8_drawn_71 : decode cX8_drawn 71 = .ok (.ireturn, 1) := by decide +kernel
theorem dX8_gets_0 : decode cX8_gets 0 = .ok (.aload_n 0, 1) := by decide +kernel
theorem dX8_gets_1 : decode cX8_gets 1 = .ok (.iload_n 1, 1) := by decide +kernel
theorem dX8_gets_2 : decode cX8_gets 2 = .ok (.iload_n 2, 1) := by decide +kernel
theorem dX8_gets_3 : decode cX8_gets 3 = .ok (.invokevirtual 275, 3) := by decide +kernel
theorem dX8_gets_6 : decode cX8_gets 6 = .ok (.ifCond .ne 23, 3) := by decide +kernel
theorem dX8_gets_9 : decode cX8_gets 9 = .ok (.iload_n 3, 1) := by decide +kernel
theorem dX8_gets_10 : decode cX8_gets 10 = .ok (.ifCond .lt 19, 3) := by decide +kernel
theorem dX8_gets_13 : decode cX8_gets 13 = .ok (.iload_n 3, 1) := by decide +kernel
theorem dX8_gets_14 : decode cX8_gets 14 = .ok (.iconst 1, 1) := by decide +kernel
theorem dX8_gets_15 : decode cX8_gets 15 = .ok (.if_icmp .gt 14, 3) := by decide +kernel
theorem dX8_gets_18 : decode cX8_gets 18 = .ok (.iload 4, 2) := by decide +kernel
theorem dX8_gets_20 : decode cX8_gets 20 = .ok (.ifCond .lt 9, 3) := by decide +kernel
theorem dX8_gets_23 : decode cX8_gets 23 = .ok (.iload 4, 2) := by decide +kernel
theorem dX8_gets_25 : decode cX8_gets 25 = .ok (.iconst 1, 1) := by decide +kernel
theorem dX8_gets_26 : decode cX8_gets 26 = .ok (.if_icmp .le 7, 3) := by decide +kernel
theorem dX8_gets_29 : decode cX8_gets 29 = .ok (.ldc_w 270, 3) := by decide +kernel
theorem dX8_gets_32 : decode cX8_gets 32 = .ok (.ireturn, 1) := by decide +kernel
theorem dX8_gets_33 : decode cX8_gets 33 = .ok (.aload_n 0, 1) := by decide +kernel
theorem dX8_gets_34 : decode cX8_gets 34 = .ok (.getfield 56, 3) := by decide +kernel
theorem dX8_gets_37 : decode cX8_gets 37 = .ok (.iload_n 1, 1) := by decide +kernel
theorem dX8_gets_38 : decode cX8_gets 38 = .ok (.iload_n 3, 1) := by decide +kernel
theorem dX8_gets_39 : decode cX8_gets 39 = .ok (.iload_n 2, 1) := by decide +kernel
theorem dX8_gets_40 : decode cX8_gets 40 = .ok (.iload 4, 2) := by decide +kernel
theorem dX8_gets_42 : decode cX8_gets 42 = .ok (.invokevirtual 281, 3) := by decide +kernel
theorem dX8_gets_45 : decode cX8_gets 45 = .ok (.ireturn, 1) := by decide +kernel
theorem dX8_luck_0 : decode cX8_luck 0 = .ok (.aload_n 0, 1) := by decide +kernel
theorem dX8_luck_1 : decode cX8_luck 1 = .ok (.invokevirtual 120, 3) := by decide +kernel
theorem dX8_luck_4 : decode cX8_luck 4 = .ok (.ifCond .eq 25, 3) := by decide +kernel
theorem dX8_luck_7 : decode cX8_luck 7 = .ok (.iload_n 1, 1) := by decide +kernel
theorem dX8_luck_8 : decode cX8_luck 8 = .ok (.ifCond .lt 21, 3) := by decide +kernel
theorem dX8_luck_11 : decode cX8_luck 11 = .ok (.iload_n 1, 1) := by decide +kernel
theorem dX8_luck_12 : decode cX8_luck 12 = .ok (.ldc_w 294, 3) := by decide +kernel
theorem dX8_luck_15 : decode cX8_luck 15 = .ok (.if_icmp .gt 14, 3) := by decide +kernel
theorem dX8_luck_18 : decode cX8_luck 18 = .ok (.iload_n 2, 1) := by decide +kernel
theorem dX8_luck_19 : decode cX8_luck 19 = .ok (.iconst 1, 1) := by decide +kernel
theorem dX8_luck_20 : decode cX8_luck 20 = .ok (.if_icmp .lt 9, 3) := by decide +kernel
theorem dX8_luck_23 : decode cX8_luck 23 = .ok (.iload_n 2, 1) := by decide +kernel
theorem dX8_luck_24 : decode cX8_luck 24 = .ok (.bipush 20, 2) := by decide +kernel
theorem dX8_luck_26 : decode cX8_luck 26 = .ok (.if_icmp .le 6, 3) := by decide +kernel
theorem dX8_luck_29 : decode cX8_luck 29 = .ok (.bipush (-2), 2) := by decide +kernel
theorem dX8_luck_31 : decode cX8_luck 31 = .ok (.ireturn, 1) := by decide +kernel
theorem dX8_luck_32 : decode cX8_luck 32 = .ok (.iconst 0, 1) := by decide +kernel
theorem dX8_luck_33 : decode cX8_luck 33 = .ok (.istore_n 3, 1) := by decide +kernel
theorem dX8_luck_34 : decode cX8_luck 34 = .ok (.iconst 0, 1) := by decide +kernel
theorem dX8_luck_35 : decode cX8_luck 35 = .ok (.istore 4, 2) := by decide +kernel
theorem dX8_luck_37 : decode cX8_luck 37 = .ok (.iload 4, 2) := by decide +kernel
theorem dX8_luck_39 : decode cX8_luck 39 = .ok (.iload_n 2, 1) := by decide +kernel
theorem dX8_luck_40 : decode cX8_luck 40 = .ok (.if_icmp .ge 44, 3) := by decide +kernel
theorem dX8_luck_43 : decode cX8_luck 43 = .ok (.aload_n 0, 1) := by decide +kernel
theorem dX8_luck_44 : decode cX8_luck 44 = .ok (.getfield 47, 3) := by decide +kernel
theorem dX8_luck_47 : decode cX8_luck 47 = .ok (.aload_n 0, 1) := by decide +kernel
theorem dX8_luck_48 : decode cX8_luck 48 = .ok (.getfield 23, 3) := by decide +kernel
theorem dX8_luck_51 : decode cX8_luck 51 = .ok (.getfield 135, 3) := by decide +kernel
theorem dX8_luck_54 : decode cX8_luck 54 = .ok (.aload_n 0, 1) := by decide +kernel
theorem dX8_luck_55 : decode cX8_luck 55 = .ok (.getfield 56, 3) := by decide +kernel
theorem dX8_luck_58 : decode cX8_luck 58 = .ok (.iload_n 1, 1) := by decide +kernel
theorem dX8_luck_59 : decode cX8_luck 59 = .ok (.i2l, 1) := by decide +kernel
theorem dX8_luck_60 : decode cX8_luck 60 = .ok (.iload 4, 2) := by decide +kernel
theorem dX8_luck_62 : decode cX8_luck 62 = .ok (.i2l, 1) := by decide +kernel
theorem dX8_luck_63 : decode cX8_luck 63 = .ok (.ladd, 1) := by decide +kernel
theorem dX8_luck_64 : decode cX8_luck 64 = .ok (.invokevirtual 295, 3) := by decide +kernel
theorem dX8_luck_67 : decode cX8_luck 67 = .ok (.ior, 1) := by decide +kernel
theorem dX8_luck_68 : decode cX8_luck 68 = .ok (.iconst 1, 1) := by decide +kernel
theorem dX8_luck_69 : decode cX8_luck 69 = .ok (.invokevirtual 298, 3) := by decide +kernel
theorem dX8_luck_72 : decode cX8_luck 72 = .ok (.ifCond .eq 6, 3) := by decide +kernel
theorem dX8_luck_75 : decode cX8_luck 75 = .ok (.iinc 3 1, 3) := by decide +kernel
theorem dX8_luck_78 : decode cX8_luck 78 = .ok (.iinc 4 1, 3) := by decide +kernel
theorem dX8_luck_81 : decode cX8_luck 81 = .ok (.goto (-44), 3) := by decide +kernel
theorem dX8_luck_84 : decode cX8_luck 84 = .ok (.iload_n 3, 1) := by decide +kernel
theorem dX8_luck_85 : decode cX8_luck 85 = .ok (.ireturn, 1) := by decide +kernel
theorem dX8_mean_0 : decode cX8_mean 0 = .ok (.aload_n 0, 1) := by decide +kernel
theorem dX8_mean_1 : decode cX8_mean 1 = .ok (.invokevirtual 120, 3) := by decide +kernel
theorem dX8_mean_4 : decode cX8_mean 4 = .ok (.ifCond .eq 12, 3) := by decide +kernel
theorem dX8_mean_7 : decode cX8_mean 7 = .ok (.iload_n 1, 1) := by decide +kernel
theorem dX8_mean_8 : decode cX8_mean 8 = .ok (.ifCond .lt 8, 3) := by decide +kernel
theorem dX8_mean_11 : decode cX8_mean 11 = .ok (.iload_n 1, 1) := by decide +kernel
theorem dX8_mean_12 : decode cX8_mean 12 = .ok (.iconst 1, 1) := by decide +kernel
theorem dX8_mean_13 : decode cX8_mean 13 = .ok (.if_icmp .le 9, 3) := by decide +kernel
theorem dX8_mean_16 : decode cX8_mean 16 = .ok (.ldc2_w 285, 3) := by decide +kernel
theorem dX8_mean_19 : decode cX8_mean 19 = .ok (.goto 11, 3) := by decide +kernel
theorem dX8_mean_22 : decode cX8_mean 22 = .ok (.aload_n 0, 1) := by decide +kernel
theorem dX8_mean_23 : decode cX8_mean 23 = .ok (.getfield 56, 3) := by decide +kernel
theorem dX8_mean_26 : decode cX8_mean 26 = .ok (.iload_n 1, 1) := by decide +kernel
theorem dX8_mean_27 : decode cX8_mean 27 = .ok (.invokevirtual 291, 3) := by decide +kernel
theorem dX8_mean_30 : decode cX8_mean 30 = .ok (.lreturn, 1) := by decide +kernel
theorem dX8_rests_0 : decode cX8_rests 0 = .ok (.aload_n 0, 1) := by decide +kernel
theorem dX8_rests_1 : decode cX8_rests 1 = .ok (.iload_n 1, 1) := by decide +kernel
theorem dX8_rests_2 : decode cX8_rests 2 = .ok (.iload_n 2, 1) := by decide +kernel
theorem dX8_rests_3 : decode cX8_rests 3 = .ok (.invokevirtual 275, 3) := by decide +kernel
theorem dX8_rests_6 : decode cX8_rests 6 = .ok (.ifCond .eq 8, 3) := by decide +kernel
theorem dX8_rests_9 : decode cX8_rests 9 = .ok (.bipush (-2), 2) := by decide +kernel
theorem dX8_rests_11 : decode cX8_rests 11 = .ok (.goto 12, 3) := by decide +kernel
theorem dX8_rests_14 : decode cX8_rests 14 = .ok (.aload_n 0, 1) := by decide +kernel
theorem dX8_rests_15 : decode cX8_rests 15 = .ok (.getfield 56, 3) := by decide +kernel
theorem dX8_rests_18 : decode cX8_rests 18 = .ok (.iload_n 1, 1) := by decide +kernel
theorem dX8_rests_19 : decode cX8_rests 19 = .ok (.iload_n 2, 1) := by decide +kernel
theorem dX8_rests_20 : decode cX8_rests 20 = .ok (.invokevirtual 278, 3) := by decide +kernel
theorem dX8_rests_23 : decode cX8_rests 23 = .ok (.ireturn, 1) := by decide +kernel
theorem dX8_share_0 : decode cX8_share 0 = .ok (.aload_n 0, 1) := by decide +kernel
theorem dX8_share_1 : decode cX8_share 1 = .ok (.iload_n 1, 1) := by decide +kernel
theorem dX8_share_2 : decode cX8_share 2 = .ok (.invokevirtual 108, 3) := by decide +kernel
theorem dX8_share_5 : decode cX8_share 5 = .ok (.ifCond .ne 12, 3) := by decide +kernel
theorem dX8_share_8 : decode cX8_share 8 = .ok (.iload_n 2, 1) := by decide +kernel
theorem dX8_share_9 : decode cX8_share 9 = .ok (.ifCond .lt 8, 3) := by decide +kernel
theorem dX8_share_12 : decode cX8_share 12 = .ok (.iload_n 2, 1) := by decide +kernel
theorem dX8_share_13 : decode cX8_share 13 = .ok (.iconst 1, 1) := by decide +kernel
theorem dX8_share_14 : decode cX8_share 14 = .ok (.if_icmp .le 7, 3) := by decide +kernel
theorem dX8_share_17 : decode cX8_share 17 = .ok (.ldc_w 270, 3) := by decide +kernel
theorem dX8_share_20 : decode cX8_share 20 = .ok (.ireturn, 1) := by decide +kernel
theorem dX8_share_21 : decode cX8_share 21 = .ok (.aload_n 0, 1) := by decide +kernel
theorem dX8_share_22 : decode cX8_share 22 = .ok (.getfield 56, 3) := by decide +kernel
theorem dX8_share_25 : decode cX8_share 25 = .ok (.iload_n 1, 1) := by decide +kernel
theorem dX8_share_26 : decode cX8_share 26 = .ok (.iload_n 2, 1) := by decide +kernel
theorem dX8_share_27 : decode cX8_share 27 = .ok (.invokevirtual 271, 3) := by decide +kernel
theorem dX8_share_30 : decode cX8_share 30 = .ok (.l2i, 1) := by decide +kernel
theorem dX8_share_31 : decode cX8_share 31 = .ok (.ireturn, 1) := by decide +kernel
theorem dX8_worth_0 : decode cX8_worth 0 = .ok (.aload_n 0, 1) := by decide +kernel
theorem dX8_worth_1 : decode cX8_worth 1 = .ok (.invokevirtual 120, 3) := by decide +kernel
theorem dX8_worth_4 : decode cX8_worth 4 = .ok (.ifCond .eq 20, 3) := by decide +kernel
theorem dX8_worth_7 : decode cX8_worth 7 = .ok (.iload_n 1, 1) := by decide +kernel
theorem dX8_worth_8 : decode cX8_worth 8 = .ok (.ifCond .lt 16, 3) := by decide +kernel
theorem dX8_worth_11 : decode cX8_worth 11 = .ok (.iload_n 1, 1) := by decide +kernel
theorem dX8_worth_12 : decode cX8_worth 12 = .ok (.iconst 1, 1) := by decide +kernel
theorem dX8_worth_13 : decode cX8_worth 13 = .ok (.aload_n 0, 1) := by decide +kernel
theorem dX8_worth_14 : decode cX8_worth 14 = .ok (.getfield 23, 3) := by decide +kernel
theorem dX8_worth_17 : decode cX8_worth 17 = .ok (.getfield 164, 3) := by decide +kernel
theorem dX8_worth_20 : decode cX8_worth 20 = .ok (.ishl, 1) := by decide +kernel
theorem dX8_worth_21 : decode cX8_worth 21 = .ok (.if_icmp .lt 6, 3) := by decide +kernel
theorem dX8_worth_24 : decode cX8_worth 24 = .ok (.bipush (-2), 2) := by decide +kernel
theorem dX8_worth_26 : decode cX8_worth 26 = .ok (.ireturn, 1) := by decide +kernel
theorem dX8_worth_27 : decode cX8_worth 27 = .ok (.aload_n 0, 1) := by decide +kernel
theorem dX8_worth_28 : decode cX8_worth 28 = .ok (.getfield 47, 3) := by decide +kernel
theorem dX8_worth_31 : decode cX8_worth 31 = .ok (.aload_n 0, 1) := by decide +kernel
theorem dX8_worth_32 : decode cX8_worth 32 = .ok (.getfield 56, 3) := by decide +kernel
theorem dX8_worth_35 : decode cX8_worth 35 = .ok (.iload_n 1, 1) := by decide +kernel
theorem dX8_worth_36 : decode cX8_worth 36 = .ok (.invokevirtual 267, 3) := by decide +kernel
theorem dX8_worth_39 : decode cX8_worth 39 = .ok (.aload_n 0, 1) := by decide +kernel
theorem dX8_worth_40 : decode cX8_worth 40 = .ok (.getfield 23, 3) := by decide +kernel
theorem dX8_worth_43 : decode cX8_worth 43 = .ok (.getfield 138, 3) := by decide +kernel
theorem dX8_worth_46 : decode cX8_worth 46 = .ok (.invokevirtual 248, 3) := by decide +kernel
theorem dX8_worth_49 : decode cX8_worth 49 = .ok (.ireturn, 1) := by decide +kernel
theorem iuX8_chance_X8 : ∀ w ∈ u_ws RX8 TX8 10, w ∈ W_X8_chance := fun w h => List.mem_cons_of_mem _ (List.mem_append_right _ (List.mem_append_left _ (h)))
theorem iuX8_drawn_X0 : ∀ w ∈ u_ws RX0 TX0 15, w ∈ W_X8_drawn := fun w h => List.mem_cons_of_mem _ (List.mem_append_right _ (List.mem_append_right _ (List.mem_append_left _ (h))))
theorem iuX8_drawn_X8 : ∀ w ∈ u_ws RX8 TX8 10, w ∈ W_X8_drawn := fun w h => List.mem_cons_of_mem _ (List.mem_append_right _ (List.mem_append_left _ (h)))
theorem iuX8_gets_X8 : ∀ w ∈ u_ws RX8 TX8 10, w ∈ W_X8_gets := fun w h => List.mem_cons_of_mem _ (List.mem_append_right _ (List.mem_append_left _ (h)))
theorem iuX8_luck_X0 : ∀ w ∈ u_ws RX0 TX0 15, w ∈ W_X8_luck := fun w h => List.mem_cons_of_mem _ (List.mem_append_right _ (List.mem_append_right _ (List.mem_append_left _ (h))))
theorem iuX8_luck_X8 : ∀ w ∈ u_ws RX8 TX8 10, w ∈ W_X8_luck := fun w h => List.mem_cons_of_mem _ (List.mem_append_right _ (List.mem_append_left _ (h)))
theorem iuX8_mean_X8 : ∀ w ∈ u_ws RX8 TX8 10, w ∈ W_X8_mean := fun w h => List.mem_cons_of_mem _ (List.mem_append_right _ (List.mem_append_left _ (h)))
theorem iuX8_rests_X8 : ∀ w ∈ u_ws RX8 TX8 10, w ∈ W_X8_rests := fun w h => List.mem_cons_of_mem _ (List.mem_append_right _ (List.mem_append_left _ (h)))
theorem iuX8_share_X8 : ∀ w ∈ u_ws RX8 TX8 10, w ∈ W_X8_share := fun w h => List.mem_cons_of_mem _ (List.mem_append_right _ (List.mem_append_left _ (h)))
theorem iuX8_worth_X0 : ∀ w ∈ u_ws RX0 TX0 15, w ∈ W_X8_worth := fun w h => List.mem_cons_of_mem _ (List.mem_append_right _ (List.mem_append_right _ (List.mem_append_left _ (h))))
theorem iuX8_worth_X8 : ∀ w ∈ u_ws RX8 TX8 10, w ∈ W_X8_worth := fun w h => List.mem_cons_of_mem _ (List.mem_append_right _ (List.mem_append_left _ (h)))
theorem gw_X8_chance_X8_isTold : GoodIn W_X8_chance W_X8_isTold := fun w h => ⟨List.mem_cons_of_mem _ (List.mem_append_right _ (List.mem_append_right _ (List.mem_append_left _ (h)))), (wI_X8_isTold w h).2⟩
theorem gc_X8_chance_120_X8_isTold : GoodIn W_X8_chance (wsV RX8 120 RX8 yX8_isTold W_X8_isTold) := goodIn_app (goodIn_sub (List.forall_mem_cons.mpr ⟨List.mem_cons_of_mem _ (List.mem_append_left _ (List.mem_of_getElem? (i := 0) rfl)), List.forall_mem_cons.mpr ⟨List.mem_cons_of_mem _ (List.mem_append_left _ (List.mem_of_getElem? (i := 1) rfl)), List.forall_mem_cons.mpr ⟨List.mem_cons_of_mem _ (List.mem_append_left _ (List.mem_of_getElem? (i := 2) rfl)), List.forall_mem_cons.mpr ⟨List.mem_cons_of_mem _ (List.mem_append_left _ (List.mem_of_getElem? (i := 3) rfl)), fun _ h => absurd h List.not_mem_nil⟩⟩⟩⟩) (by decide +kernel)) gw_X8_chance_X8_isTold
theorem gw_X8_chance_X1_safety : GoodIn W_X8_chance W_X1_safety := fun w h => ⟨List.mem_cons_of_mem _ (List.mem_append_right _ (List.mem_append_right _ (List.mem_append_right _ (h)))), (wI_X1_safety w h).2⟩
theorem gc_X8_chance_287_X1_safety : GoodIn W_X8_chance (wsV RX8 287 RX1 yX1_safety W_X1_safety) := goodIn_app (goodIn_sub (List.forall_mem_cons.mpr ⟨List.mem_cons_of_mem _ (List.mem_append_left _ (List.mem_of_getElem? (i := 6) rfl)), List.forall_mem_cons.mpr ⟨List.mem_cons_of_mem _ (List.mem_append_left _ (List.mem_of_getElem? (i := 7) rfl)), List.forall_mem_cons.mpr ⟨List.mem_cons_of_mem _ (List.mem_append_left _ (List.mem_of_getElem? (i := 8) rfl)), List.forall_mem_cons.mpr ⟨List.mem_cons_of_mem _ (List.mem_append_left _ (List.mem_of_getElem? (i := 9) rfl)), fun _ h => absurd h List.not_mem_nil⟩⟩⟩⟩) (by decide +kernel)) gw_X8_chance_X1_safety
theorem gw_X8_drawn_X8_isTold : GoodIn W_X8_drawn W_X8_isTold := fun w h => ⟨List.mem_cons_of_mem _ (List.mem_append_right _ (List.mem_append_right _ (List.mem_append_right _ (List.mem_append_left _ (h))))), (wI_X8_isTold w h).2⟩
theorem gc_X8_drawn_120_X8_isTold : GoodIn W_X8_drawn (wsV RX8 120 RX8 yX8_isTold W_X8_isTold) := goodIn_app (goodIn_sub (List.forall_mem_cons.mpr ⟨List.mem_cons_of_mem _ (List.mem_append_left _ (List.mem_of_getElem? (i := 0) rfl)), List.forall_mem_cons.mpr ⟨List.mem_cons_of_mem _ (List.mem_append_left _ (List.mem_of_getElem? (i := 1) rfl)), List.forall_mem_cons.mpr ⟨List.mem_cons_of_mem _ (List.mem_append_left _ (List.mem_of_getElem? (i := 2) rfl)), List.forall_mem_cons.mpr ⟨List.mem_cons_of_mem _ (List.mem_append_left _ (List.mem_of_getElem? (i := 3) rfl)), fun _ h => absurd h List.not_mem_nil⟩⟩⟩⟩) (by decide +kernel)) gw_X8_drawn_X8_isTold
theorem gw_X8_drawn_X2_totalWith : GoodIn W_X8_drawn W_X2_totalWith := fun w h => ⟨List.mem_cons_of_mem _ (List.mem_append_right _ (List.mem_append_right _ (List.mem_append_right _ (List.mem_append_right _ (List.mem_append_right _ (h)))))), (wI_X2_totalWith w h).2⟩
theorem gc_X8_drawn_248_X2_totalWith : GoodIn W_X8_drawn (wsV RX8 248 RX2 yX2_totalWith W_X2_totalWith) := goodIn_app (goodIn_sub (List.forall_mem_cons.mpr ⟨List.mem_cons_of_mem _ (List.mem_append_left _ (List.mem_of_getElem? (i := 14) rfl)), List.forall_mem_cons.mpr ⟨List.mem_cons_of_mem _ (List.mem_append_left _ (List.mem_of_getElem? (i := 15) rfl)), List.forall_mem_cons.mpr ⟨List.mem_cons_of_mem _ (List.mem_append_left _ (List.mem_of_getElem? (i := 16) rfl)), List.forall_mem_cons.mpr ⟨List.mem_cons_of_mem _ (List.mem_append_left _ (List.mem_of_getElem? (i := 17) rfl)), fun _ h => absurd h List.not_mem_nil⟩⟩⟩⟩) (by decide +kernel)) gw_X8_drawn_X2_totalWith
theorem gw_X8_drawn_X1_draw : GoodIn W_X8_drawn W_X1_draw := fun w h => ⟨List.mem_cons_of_mem _ (List.mem_append_right _ (List.mem_append_right _ (List.mem_append_right _ (List.mem_append_right _ (List.mem_append_left _ (h)))))), (wI_X1_draw w h).2⟩
theorem gc_X8_drawn_295_X1_draw : GoodIn W_X8_drawn (wsV RX8 295 RX1 yX1_draw W_X1_draw) := goodIn_app (goodIn_sub (List.forall_mem_cons.mpr ⟨List.mem_cons_of_mem _ (List.mem_append_left _ (List.mem_of_getElem? (i := 6) rfl)), List.forall_mem_cons.mpr ⟨List.mem_cons_of_mem _ (List.mem_append_left _ (List.mem_of_getElem? (i := 7) rfl)), List.forall_mem_cons.mpr ⟨List.mem_cons_of_mem _ (List.mem_append_left _ (List.mem_of_getElem? (i := 8) rfl)), List.forall_mem_cons.mpr ⟨List.mem_cons_of_mem _ (List.mem_append_left _ (List.mem_of_getElem? (i := 9) rfl)), fun _ h => absurd h List.not_mem_nil⟩⟩⟩⟩) (by decide +kernel)) gw_X8_drawn_X1_draw
theorem gw_X8_gets_X8_noGame : GoodIn W_X8_gets W_X8_noGame := fun w h => ⟨List.mem_cons_of_mem _ (List.mem_append_right _ (List.mem_append_right _ (List.mem_append_left _ (h)))), (wI_X8_noGame w h).2⟩
theorem gc_X8_gets_275_X8_noGame : GoodIn W_X8_gets (wsV RX8 275 RX8 yX8_noGame W_X8_noGame) := goodIn_app (goodIn_sub (List.forall_mem_cons.mpr ⟨List.mem_cons_of_mem _ (List.mem_append_left _ (List.mem_of_getElem? (i := 0) rfl)), List.forall_mem_cons.mpr ⟨List.mem_cons_of_mem _ (List.mem_append_left _ (List.mem_of_getElem? (i := 1) rfl)), List.forall_mem_cons.mpr ⟨List.mem_cons_of_mem _ (List.mem_append_left _ (List.mem_of_getElem? (i := 2) rfl)), List.forall_mem_cons.mpr ⟨List.mem_cons_of_mem _ (List.mem_append_left _ (List.mem_of_getElem? (i := 3) rfl)), fun _ h => absurd h List.not_mem_nil⟩⟩⟩⟩) (by decide +kernel)) gw_X8_gets_X8_noGame
theorem gw_X8_gets_X1_gain : GoodIn W_X8_gets W_X1_gain := fun w h => ⟨List.mem_cons_of_mem _ (List.mem_append_right _ (List.mem_append_right _ (List.mem_append_right _ (h)))), (wI_X1_gain w h).2⟩
theorem gc_X8_gets_281_X1_gain : GoodIn W_X8_gets (wsV RX8 281 RX1 yX1_gain W_X1_gain) := goodIn_app (goodIn_sub (List.forall_mem_cons.mpr ⟨List.mem_cons_of_mem _ (List.mem_append_left _ (List.mem_of_getElem? (i := 6) rfl)), List.forall_mem_cons.mpr ⟨List.mem_cons_of_mem _ (List.mem_append_left _ (List.mem_of_getElem? (i := 7) rfl)), List.forall_mem_cons.mpr ⟨List.mem_cons_of_mem _ (List.mem_append_left _ (List.mem_of_getElem? (i := 8) rfl)), List.forall_mem_cons.mpr ⟨List.mem_cons_of_mem _ (List.mem_append_left _ (List.mem_of_getElem? (i := 9) rfl)), fun _ h => absurd h List.not_mem_nil⟩⟩⟩⟩) (by decide +kernel)) gw_X8_gets_X1_gain
theorem gw_X8_luck_X8_isTold : GoodIn W_X8_luck W_X8_isTold := fun w h => ⟨List.mem_cons_of_mem _ (List.mem_append_right _ (List.mem_append_right _ (List.mem_append_right _ (List.mem_append_left _ (h))))), (wI_X8_isTold w h).2⟩
theorem gc_X8_luck_120_X8_isTold : GoodIn W_X8_luck (wsV RX8 120 RX8 yX8_isTold W_X8_isTold) := goodIn_app (goodIn_sub (List.forall_mem_cons.mpr ⟨List.mem_cons_of_mem _ (List.mem_append_left _ (List.mem_of_getElem? (i := 0) rfl)), List.forall_mem_cons.mpr ⟨List.mem_cons_of_mem _ (List.mem_append_left _ (List.mem_of_getElem? (i := 1) rfl)), List.forall_mem_cons.mpr ⟨List.mem_cons_of_mem _ (List.mem_append_left _ (List.mem_of_getElem? (i := 2) rfl)), List.forall_mem_cons.mpr ⟨List.mem_cons_of_mem _ (List.mem_append_left _ (List.mem_of_getElem? (i := 3) rfl)), fun _ h => absurd h List.not_mem_nil⟩⟩⟩⟩) (by decide +kernel)) gw_X8_luck_X8_isTold
theorem gw_X8_luck_X1_draw : GoodIn W_X8_luck W_X1_draw := fun w h => ⟨List.mem_cons_of_mem _ (List.mem_append_right _ (List.mem_append_right _ (List.mem_append_right _ (List.mem_append_right _ (List.mem_append_left _ (h)))))), (wI_X1_draw w h).2⟩
theorem gc_X8_luck_295_X1_draw : GoodIn W_X8_luck (wsV RX8 295 RX1 yX1_draw W_X1_draw) := goodIn_app (goodIn_sub (List.forall_mem_cons.mpr ⟨List.mem_cons_of_mem _ (List.mem_append_left _ (List.mem_of_getElem? (i := 9) rfl)), List.forall_mem_cons.mpr ⟨List.mem_cons_of_mem _ (List.mem_append_left _ (List.mem_of_getElem? (i := 10) rfl)), List.forall_mem_cons.mpr ⟨List.mem_cons_of_mem _ (List.mem_append_left _ (List.mem_of_getElem? (i := 11) rfl)), List.forall_mem_cons.mpr ⟨List.mem_cons_of_mem _ (List.mem_append_left _ (List.mem_of_getElem? (i := 12) rfl)), fun _ h => absurd h List.not_mem_nil⟩⟩⟩⟩) (by decide +kernel)) gw_X8_luck_X1_draw
theorem gw_X8_luck_X2_isSafeWith : GoodIn W_X8_luck W_X2_isSafeWith := fun w h => ⟨List.mem_cons_of_mem _ (List.mem_append_right _ (List.mem_append_right _ (List.mem_append_right _ (List.mem_append_right _ (List.mem_append_right _ (h)))))), (wI_X2_isSafeWith w h).2⟩
theorem gc_X8_luck_298_X2_isSafeWith : GoodIn W_X8_luck (wsV RX8 298 RX2 yX2_isSafeWith W_X2_isSafeWith) := goodIn_app (goodIn_sub (List.forall_mem_cons.mpr ⟨List.mem_cons_of_mem _ (List.mem_append_left _ (List.mem_of_getElem? (i := 13) rfl)), List.forall_mem_cons.mpr ⟨List.mem_cons_of_mem _ (List.mem_append_left _ (List.mem_of_getElem? (i := 14) rfl)), List.forall_mem_cons.mpr ⟨List.mem_cons_of_mem _ (List.mem_append_left _ (List.mem_of_getElem? (i := 15) rfl)), List.forall_mem_cons.mpr ⟨List.mem_cons_of_mem _ (List.mem_append_left _ (List.mem_of_getElem? (i := 16) rfl)), fun _ h => absurd h List.not_mem_nil⟩⟩⟩⟩) (by decide +kernel)) gw_X8_luck_X2_isSafeWith
theorem gw_X8_mean_X8_isTold : GoodIn W_X8_mean W_X8_isTold := fun w h => ⟨List.mem_cons_of_mem _ (List.mem_append_right _ (List.mem_append_right _ (List.mem_append_left _ (h)))), (wI_X8_isTold w h).2⟩
theorem gc_X8_mean_120_X8_isTold : GoodIn W_X8_mean (wsV RX8 120 RX8 yX8_isTold W_X8_isTold) := goodIn_app (goodIn_sub (List.forall_mem_cons.mpr ⟨List.mem_cons_of_mem _ (List.mem_append_left _ (List.mem_of_getElem? (i := 0) rfl)), List.forall_mem_cons.mpr ⟨List.mem_cons_of_mem _ (List.mem_append_left _ (List.mem_of_getElem? (i := 1) rfl)), List.forall_mem_cons.mpr ⟨List.mem_cons_of_mem _ (List.mem_append_left _ (List.mem_of_getElem? (i := 2) rfl)), List.forall_mem_cons.mpr ⟨List.mem_cons_of_mem _ (List.mem_append_left _ (List.mem_of_getElem? (i := 3) rfl)), fun _ h => absurd h List.not_mem_nil⟩⟩⟩⟩) (by decide +kernel)) gw_X8_mean_X8_isTold
theorem gw_X8_mean_X1_meanOfValids : GoodIn W_X8_mean W_X1_meanOfValids := fun w h => ⟨List.mem_cons_of_mem _ (List.mem_append_right _ (List.mem_append_right _ (List.mem_append_right _ (h)))), (wI_X1_meanOfValids w h).2⟩
theorem gc_X8_mean_291_X1_meanOfValids : GoodIn W_X8_mean (wsV RX8 291 RX1 yX1_meanOfValids W_X1_meanOfValids) := goodIn_app (goodIn_sub (List.forall_mem_cons.mpr ⟨List.mem_cons_of_mem _ (List.mem_append_left _ (List.mem_of_getElem? (i := 6) rfl)), List.forall_mem_cons.mpr ⟨List.mem_cons_of_mem _ (List.mem_append_left _ (List.mem_of_getElem? (i := 7) rfl)), List.forall_mem_cons.mpr ⟨List.mem_cons_of_mem _ (List.mem_append_left _ (List.mem_of_getElem? (i := 8) rfl)), List.forall_mem_cons.mpr ⟨List.mem_cons_of_mem _ (List.mem_append_left _ (List.mem_of_getElem? (i := 9) rfl)), fun _ h => absurd h List.not_mem_nil⟩⟩⟩⟩) (by decide +kernel)) gw_X8_mean_X1_meanOfValids
theorem gw_X8_rests_X8_noGame : GoodIn W_X8_rests W_X8_noGame := fun w h => ⟨List.mem_cons_of_mem _ (List.mem_append_right _ (List.mem_append_right _ (List.mem_append_left _ (h)))), (wI_X8_noGame w h).2⟩
theorem gc_X8_rests_275_X8_noGame : GoodIn W_X8_rests (wsV RX8 275 RX8 yX8_noGame W_X8_noGame) := goodIn_app (goodIn_sub (List.forall_mem_cons.mpr ⟨List.mem_cons_of_mem _ (List.mem_append_left _ (List.mem_of_getElem? (i := 0) rfl)), List.forall_mem_cons.mpr ⟨List.mem_cons_of_mem _ (List.mem_append_left _ (List.mem_of_getElem? (i := 1) rfl)), List.forall_mem_cons.mpr ⟨List.mem_cons_of_mem _ (List.mem_append_left _ (List.mem_of_getElem? (i := 2) rfl)), List.forall_mem_cons.mpr ⟨List.mem_cons_of_mem _ (List.mem_append_left _ (List.mem_of_getElem? (i := 3) rfl)), fun _ h => absurd h List.not_mem_nil⟩⟩⟩⟩) (by decide +kernel)) gw_X8_rests_X8_noGame
theorem gw_X8_rests_X1_restsOf : GoodIn W_X8_rests W_X1_restsOf := fun w h => ⟨List.mem_cons_of_mem _ (List.mem_append_right _ (List.mem_append_right _ (List.mem_append_right _ (h)))), (wI_X1_restsOf w h).2⟩
theorem gc_X8_rests_278_X1_restsOf : GoodIn W_X8_rests (wsV RX8 278 RX1 yX1_restsOf W_X1_restsOf) := goodIn_app (goodIn_sub (List.forall_mem_cons.mpr ⟨List.mem_cons_of_mem _ (List.mem_append_left _ (List.mem_of_getElem? (i := 5) rfl)), List.forall_mem_cons.mpr ⟨List.mem_cons_of_mem _ (List.mem_append_left _ (List.mem_of_getElem? (i := 6) rfl)), List.forall_mem_cons.mpr ⟨List.mem_cons_of_mem _ (List.mem_append_left _ (List.mem_of_getElem? (i := 7) rfl)), List.forall_mem_cons.mpr ⟨List.mem_cons_of_mem _ (List.mem_append_left _ (List.mem_of_getElem? (i := 8) rfl)), fun _ h => absurd h List.not_mem_nil⟩⟩⟩⟩) (by decide +kernel)) gw_X8_rests_X1_restsOf
theorem gw_X8_share_X8_noRule : GoodIn W_X8_share W_X8_noRule := fun w h => ⟨List.mem_cons_of_mem _ (List.mem_append_right _ (List.mem_append_right _ (List.mem_append_left _ (h)))), (wI_X8_noRule w h).2⟩
theorem gc_X8_share_108_X8_noRule : GoodIn W_X8_share (wsV RX8 108 RX8 yX8_noRule W_X8_noRule) := goodIn_app (goodIn_sub (List.forall_mem_cons.mpr ⟨List.mem_cons_of_mem _ (List.mem_append_left _ (List.mem_of_getElem? (i := 0) rfl)), List.forall_mem_cons.mpr ⟨List.mem_cons_of_mem _ (List.mem_append_left _ (List.mem_of_getElem? (i := 1) rfl)), List.forall_mem_cons.mpr ⟨List.mem_cons_of_mem _ (List.mem_append_left _ (List.mem_of_getElem? (i := 2) rfl)), List.forall_mem_cons.mpr ⟨List.mem_cons_of_mem _ (List.mem_append_left _ (List.mem_of_getElem? (i := 3) rfl)), fun _ h => absurd h List.not_mem_nil⟩⟩⟩⟩) (by decide +kernel)) gw_X8_share_X8_noRule
theorem gw_X8_share_X1_shareOf : GoodIn W_X8_share W_X1_shareOf := fun w h => ⟨List.mem_cons_of_mem _ (List.mem_append_right _ (List.mem_append_right _ (List.mem_append_right _ (h)))), (wI_X1_shareOf w h).2⟩
theorem gc_X8_share_271_X1_shareOf : GoodIn W_X8_share (wsV RX8 271 RX1 yX1_shareOf W_X1_shareOf) := goodIn_app (goodIn_sub (List.forall_mem_cons.mpr ⟨List.mem_cons_of_mem _ (List.mem_append_left _ (List.mem_of_getElem? (i := 6) rfl)), List.forall_mem_cons.mpr ⟨List.mem_cons_of_mem _ (List.mem_append_left _ (List.mem_of_getElem? (i := 7) rfl)), List.forall_mem_cons.mpr ⟨List.mem_cons_of_mem _ (List.mem_append_left _ (List.mem_of_getElem? (i := 8) rfl)), List.forall_mem_cons.mpr ⟨List.mem_cons_of_mem _ (List.mem_append_left _ (List.mem_of_getElem? (i := 9) rfl)), fun _ h => absurd h List.not_mem_nil⟩⟩⟩⟩) (by decide +kernel)) gw_X8_share_X1_shareOf
theorem gw_X8_worth_X8_isTold : GoodIn W_X8_worth W_X8_isTold := fun w h => ⟨List.mem_cons_of_mem _ (List.mem_append_right _ (List.mem_append_right _ (List.mem_append_right _ (List.mem_append_left _ (h))))), (wI_X8_isTold w h).2⟩
theorem gc_X8_worth_120_X8_isTold : GoodIn W_X8_worth (wsV RX8 120 RX8 yX8_isTold W_X8_isTold) := goodIn_app (goodIn_sub (List.forall_mem_cons.mpr ⟨List.mem_cons_of_mem _ (List.mem_append_left _ (List.mem_of_getElem? (i := 0) rfl)), List.forall_mem_cons.mpr ⟨List.mem_cons_of_mem _ (List.mem_append_left _ (List.mem_of_getElem? (i := 1) rfl)), List.forall_mem_cons.mpr ⟨List.mem_cons_of_mem _ (List.mem_append_left _ (List.mem_of_getElem? (i := 2) rfl)), List.forall_mem_cons.mpr ⟨List.mem_cons_of_mem _ (List.mem_append_left _ (List.mem_of_getElem? (i := 3) rfl)), fun _ h => absurd h List.not_mem_nil⟩⟩⟩⟩) (by decide +kernel)) gw_X8_worth_X8_isTold
theorem gw_X8_worth_X2_totalWith : GoodIn W_X8_worth W_X2_totalWith := fun w h => ⟨List.mem_cons_of_mem _ (List.mem_append_right _ (List.mem_append_right _ (List.mem_append_right _ (List.mem_append_right _ (List.mem_append_right _ (h)))))), (wI_X2_totalWith w h).2⟩
theorem gc_X8_worth_248_X2_totalWith : GoodIn W_X8_worth (wsV RX8 248 RX2 yX2_totalWith W_X2_totalWith) := goodIn_app (goodIn_sub (List.forall_mem_cons.mpr ⟨List.mem_cons_of_mem _ (List.mem_append_left _ (List.mem_of_getElem? (i := 13) rfl)), List.forall_mem_cons.mpr ⟨List.mem_cons_of_mem _ (List.mem_append_left _ (List.mem_of_getElem? (i := 14) rfl)), List.forall_mem_cons.mpr ⟨List.mem_cons_of_mem _ (List.mem_append_left _ (List.mem_of_getElem? (i := 15) rfl)), List.forall_mem_cons.mpr ⟨List.mem_cons_of_mem _ (List.mem_append_left _ (List.mem_of_getElem? (i := 16) rfl)), fun _ h => absurd h List.not_mem_nil⟩⟩⟩⟩) (by decide +kernel)) gw_X8_worth_X2_totalWith
theorem gw_X8_worth_X1_othersDropped : GoodIn W_X8_worth W_X1_othersDropped := fun w h => ⟨List.mem_cons_of_mem _ (List.mem_append_right _ (List.mem_append_right _ (List.mem_append_right _ (List.mem_append_right _ (List.mem_append_left _ (h)))))), (wI_X1_othersDropped w h).2⟩
theorem gc_X8_worth_267_X1_othersDropped : GoodIn W_X8_worth (wsV RX8 267 RX1 yX1_othersDropped W_X1_othersDropped) := goodIn_app (goodIn_sub (List.forall_mem_cons.mpr ⟨List.mem_cons_of_mem _ (List.mem_append_left _ (List.mem_of_getElem? (i := 8) rfl)), List.forall_mem_cons.mpr ⟨List.mem_cons_of_mem _ (List.mem_append_left _ (List.mem_of_getElem? (i := 9) rfl)), List.forall_mem_cons.mpr ⟨List.mem_cons_of_mem _ (List.mem_append_left _ (List.mem_of_getElem? (i := 10) rfl)), List.forall_mem_cons.mpr ⟨List.mem_cons_of_mem _ (List.mem_append_left _ (List.mem_of_getElem? (i := 11) rfl)), fun _ h => absurd h List.not_mem_nil⟩⟩⟩⟩) (by decide +kernel)) gw_X8_worth_X1_othersDropped
