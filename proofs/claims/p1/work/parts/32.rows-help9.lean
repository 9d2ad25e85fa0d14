theorem dX9_areTwo_0 : decode cX9_areTwo 0 = .ok (.aload_n 0, 1) := by decide +kernel
theorem dX9_areTwo_1 : decode cX9_areTwo 1 = .ok (.iload_n 1, 1) := by decide +kernel
theorem dX9_areTwo_2 : decode cX9_areTwo 2 = .ok (.invokevirtual 267, 3) := by decide +kernel
theorem dX9_areTwo_5 : decode cX9_areTwo 5 = .ok (.ifCond .eq 20, 3) := by decide +kernel
theorem dX9_areTwo_25 : decode cX9_areTwo 25 = .ok (.iconst 0, 1) := by decide +kernel
theorem dX9_areTwo_26 : decode cX9_areTwo 26 = .ok (.ireturn, 1) := by decide +kernel
theorem dX9_asItIs_0 : decode cX9_asItIs 0 = .ok (.aload_n 0, 1) := by decide +kernel
theorem dX9_asItIs_1 : decode cX9_asItIs 1 = .ok (.aload_n 0, 1) := by decide +kernel
theorem dX9_asItIs_2 : decode cX9_asItIs 2 = .ok (.getfield 9, 3) := by decide +kernel
theorem dX9_asItIs_5 : decode cX9_asItIs 5 = .ok (.iconst 1, 1) := by decide +kernel
theorem dX9_asItIs_6 : decode cX9_asItIs 6 = .ok (.iaload, 1) := by decide +kernel
theorem dX9_asItIs_7 : decode cX9_asItIs 7 = .ok (.putfield 276, 3) := by decide +kernel
theorem dX9_asItIs_10 : decode cX9_asItIs 10 = .ok (.aload_n 0, 1) := by decide +kernel
theorem dX9_asItIs_11 : decode cX9_asItIs 11 = .ok (.iconst 0, 1) := by decide +kernel
theorem dX9_asItIs_12 : decode cX9_asItIs 12 = .ok (.putfield 279, 3) := by decide +kernel
theorem dX9_asItIs_15 : decode cX9_asItIs 15 = .ok (.aload_n 0, 1) := by decide +kernel
theorem dX9_asItIs_16 : decode cX9_asItIs 16 = .ok (.iconst 0, 1) := by decide +kernel
theorem dX9_asItIs_17 : decode cX9_asItIs 17 = .ok (.putfield 282, 3) := by decide +kernel
theorem dX9_asItIs_20 : decode cX9_asItIs 20 = .ok (.iconst 0, 1) := by decide +kernel
theorem dX9_asItIs_21 : decode cX9_asItIs 21 = .ok (.istore_n 1, 1) := by decide +kernel
theorem dX9_asItIs_22 : decode cX9_asItIs 22 = .ok (.iload_n 1, 1) := by decide +kernel
theorem dX9_asItIs_23 : decode cX9_asItIs 23 = .ok (.iconst 3, 1) := by decide +kernel
theorem dX9_asItIs_24 : decode cX9_asItIs 24 = .ok (.if_icmp .ge 24, 3) := by decide +kernel
theorem dX9_asItIs_27 : decode cX9_asItIs 27 = .ok (.aload_n 0, 1) := by decide +kernel
theorem dX9_asItIs_28 : decode cX9_asItIs 28 = .ok (.getfield 34, 3) := by decide +kernel
theorem dX9_asItIs_31 : decode cX9_asItIs 31 = .ok (.iload_n 1, 1) := by decide +kernel
theorem dX9_asItIs_32 : decode cX9_asItIs 32 = .ok (.aload_n 0, 1) := by decide +kernel
theorem dX9_asItIs_33 : decode cX9_asItIs 33 = .ok (.getfield 9, 3) := by decide +kernel
theorem dX9_asItIs_36 : decode cX9_asItIs 36 = .ok (.bipush 8, 2) := by decide +kernel
theorem dX9_asItIs_38 : decode cX9_asItIs 38 = .ok (.iload_n 1, 1) := by decide +kernel
theorem dX9_asItIs_39 : decode cX9_asItIs 39 = .ok (.iadd, 1) := by decide +kernel
theorem dX9_asItIs_40 : decode cX9_asItIs 40 = .ok (.iaload, 1) := by decide +kernel
theorem dX9_asItIs_41 : decode cX9_asItIs 41 = .ok (.iastore, 1) := by decide +kernel
theorem dX9_asItIs_42 : decode cX9_asItIs 42 = .ok (.iinc 1 1, 3) := by decide +kernel
theorem dX9_asItIs_45 : decode cX9_asItIs 45 = .ok (.goto (-23), 3) := by decide +kernel
theorem dX9_asItIs_48 : decode cX9_asItIs 48 = .ok (.iconst 0, 1) := by decide +kernel
theorem dX9_asItIs_49 : decode cX9_asItIs 49 = .ok (.istore_n 1, 1) := by decide +kernel
theorem dX9_asItIs_50 : decode cX9_asItIs 50 = .ok (.iload_n 1, 1) := by decide +kernel
theorem dX9_asItIs_51 : decode cX9_asItIs 51 = .ok (.aload_n 0, 1) := by decide +kernel
theorem dX9_asItIs_52 : decode cX9_asItIs 52 = .ok (.getfield 9, 3) := by decide +kernel
theorem dX9_asItIs_55 : decode cX9_asItIs 55 = .ok (.bipush 6, 2) := by decide +kernel
theorem dX9_asItIs_57 : decode cX9_asItIs 57 = .ok (.iaload, 1) := by decide +kernel
theorem dX9_asItIs_58 : decode cX9_asItIs 58 = .ok (.if_icmp .ge 88, 3) := by decide +kernel
theorem dX9_asItIs_146 : decode cX9_asItIs 146 = .ok (.return_, 1) := by decide +kernel
theorem dX9_askFits_0 : decode cX9_askFits 0 = .ok (.aload_n 0, 1) := by decide +kernel
theorem dX9_askFits_1 : decode cX9_askFits 1 = .ok (.iload_n 1, 1) := by decide +kernel
theorem dX9_askFits_2 : decode cX9_askFits 2 = .ok (.invokevirtual 443, 3) := by decide +kernel
theorem dX9_askFits_5 : decode cX9_askFits 5 = .ok (.istore_n 2, 1) := by decide +kernel
theorem dX9_askFits_6 : decode cX9_askFits 6 = .ok (.iload_n 2, 1) := by decide +kernel
theorem dX9_askFits_7 : decode cX9_askFits 7 = .ok (.ifCond .ne 8, 3) := by decide +kernel
theorem dX9_askFits_15 : decode cX9_askFits 15 = .ok (.iload_n 2, 1) := by decide +kernel
theorem dX9_askFits_16 : decode cX9_askFits 16 = .ok (.ireturn, 1) := by decide +kernel
theorem dX9_askSeen_0 : decode cX9_askSeen 0 = .ok (.iload_n 1, 1) := by decide +kernel
theorem dX9_askSeen_1 : decode cX9_askSeen 1 = .ok (.invokestatic 430, 3) := by decide +kernel
theorem dX9_askSeen_4 : decode cX9_askSeen 4 = .ok (.ifCond .eq 10, 3) := by decide +kernel
theorem dX9_askSeen_7 : decode cX9_askSeen 7 = .ok (.aload_n 0, 1) := by decide +kernel
theorem dX9_askSeen_8 : decode cX9_askSeen 8 = .ok (.invokevirtual 92, 3) := by decide +kernel
theorem dX9_askSeen_11 : decode cX9_askSeen 11 = .ok (.ifCond .ne 6, 3) := by decide +kernel
theorem dX9_askSeen_14 : decode cX9_askSeen 14 = .ok (.bipush (-2), 2) := by decide +kernel
theorem dX9_askSeen_16 : decode cX9_askSeen 16 = .ok (.ireturn, 1) := by decide +kernel
theorem dX9_asks_0 : decode cX9_asks 0 = .ok (.aload_n 0, 1) := by decide +kernel
theorem dX9_asks_1 : decode cX9_asks 1 = .ok (.invokevirtual 308, 3) := by decide +kernel
theorem dX9_asks_4 : decode cX9_asks 4 = .ok (.aload_n 0, 1) := by decide +kernel
theorem dX9_asks_5 : decode cX9_asks 5 = .ok (.invokevirtual 92, 3) := by decide +kernel
theorem dX9_asks_8 : decode cX9_asks 8 = .ok (.ifCond .ne 5, 3) := by decide +kernel
theorem dX9_asks_11 : decode cX9_asks 11 = .ok (.iconst 0, 1) := by decide +kernel
theorem dX9_asks_12 : decode cX9_asks 12 = .ok (.ireturn, 1) := by decide +kernel
theorem dX9_asksChance_0 : decode cX9_asksChance 0 = .ok (.aload_n 0, 1) := by decide +kernel
theorem dX9_asksChance_1 : decode cX9_asksChance 1 = .ok (.invokevirtual 92, 3) := by decide +kernel
theorem dX9_asksChance_4 : decode cX9_asksChance 4 = .ok (.ifCond .eq 13, 3) := by decide +kernel
theorem dX9_asksChance_17 : decode cX9_asksChance 17 = .ok (.iconst 0, 1) := by decide +kernel
theorem dX9_asksChance_18 : decode cX9_asksChance 18 = .ok (.ireturn, 1) := by decide +kernel
theorem dX9_asksIn_0 : decode cX9_asksIn 0 = .ok (.aload_n 0, 1) := by decide +kernel
theorem dX9_asksIn_1 : decode cX9_asksIn 1 = .ok (.invokevirtual 318, 3) := by decide +kernel
theorem dX9_asksIn_4 : decode cX9_asksIn 4 = .ok (.ifCond .eq 10, 3) := by decide +kernel
theorem dX9_asksIn_14 : decode cX9_asksIn 14 = .ok (.iconst 0, 1) := by decide +kernel
theorem dX9_asksIn_15 : decode cX9_asksIn 15 = .ok (.ireturn, 1) := by decide +kernel
theorem dX9_asksLocks_0 : decode cX9_asksLocks 0 = .ok (.aload_n 0, 1) := by decide +kernel
theorem dX9_asksLocks_1 : decode cX9_asksLocks 1 = .ok (.invokevirtual 318, 3) := by decide +kernel
theorem dX9_asksLocks_4 : decode cX9_asksLocks 4 = .ok (.ifCond .eq 10, 3) := by decide +kernel
theorem dX9_asksLocks_14 : decode cX9_asksLocks 14 = .ok (.iconst 0, 1) := by decide +kernel
theorem dX9_asksLocks_15 : decode cX9_asksLocks 15 = .ok (.ireturn, 1) := by decide +kernel
theorem dX9_asksSides_0 : decode cX9_asksSides 0 = .ok (.aload_n 0, 1) := by decide +kernel
theorem dX9_asksSides_1 : decode cX9_asksSides 1 = .ok (.invokevirtual 318, 3) := by decide +kernel
theorem dX9_asksSides_4 : decode cX9_asksSides 4 = .ok (.ifCond .eq 12, 3) := by decide +kernel
theorem dX9_asksSides_16 : decode cX9_asksSides 16 = .ok (.iconst 0, 1) := by decide +kernel
theorem dX9_asksSides_17 : decode cX9_asksSides 17 = .ok (.ireturn, 1) := by decide +kernel
theorem dX9_cells_0 : decode cX9_cells 0 = .ok (.aload_n 0, 1) := by decide +kernel
theorem dX9_cells_1 : decode cX9_cells 1 = .ok (.getfield 9, 3) := by decide +kernel
theorem dX9_cells_4 : decode cX9_cells 4 = .ok (.iconst 3, 1) := by decide +kernel
theorem dX9_cells_5 : decode cX9_cells 5 = .ok (.iaload, 1) := by decide +kernel
theorem dX9_cells_6 : decode cX9_cells 6 = .ok (.ireturn, 1) := by decide +kernel
theorem dX9_in_0 : decode cX9_in 0 = .ok (.lload_n 0, 1) := by decide +kernel
theorem dX9_in_1 : decode cX9_in 1 = .ok (.lload_n 2, 1) := by decide +kernel
theorem dX9_in_2 : decode cX9_in 2 = .ok (.lcmp, 1) := by decide +kernel
theorem dX9_in_3 : decode cX9_in 3 = .ok (.ifCond .lt 14, 3) := by decide +kernel
theorem dX9_in_6 : decode cX9_in 6 = .ok (.lload_n 0, 1) := by decide +kernel
theorem dX9_in_7 : decode cX9_in 7 = .ok (.lload 4, 2) := by decide +kernel
theorem dX9_in_9 : decode cX9_in 9 = .ok (.lcmp, 1) := by decide +kernel
theorem dX9_in_10 : decode cX9_in 10 = .ok (.ifCond .gt 7, 3) := by decide +kernel
theorem dX9_in_13 : decode cX9_in 13 = .ok (.iconst 1, 1) := by decide +kernel
theorem dX9_in_14 : decode cX9_in 14 = .ok (.goto 4, 3) := by decide +kernel
theorem dX9_in_17 : decode cX9_in 17 = .ok (.iconst 0, 1) := by decide +kernel
theorem dX9_in_18 : decode cX9_in 18 = .ok (.ireturn, 1) := by decide +kernel
theorem dX9_isBase_0 : decode cX9_isBase 0 = .ok (.aload_n 0, 1) := by decide +kernel
theorem dX9_isBase_1 : decode cX9_isBase 1 = .ok (.getfield 9, 3) := by decide +kernel
theorem dX9_isBase_4 : decode cX9_isBase 4 = .ok (.bipush 7, 2) := by decide +kernel
theorem dX9_isBase_6 : decode cX9_isBase 6 = .ok (.iaload, 1) := by decide +kernel
theorem dX9_isBase_7 : decode cX9_isBase 7 = .ok (.ifCond .le 7, 3) := by decide +kernel
theorem dX9_isBase_14 : decode cX9_isBase 14 = .ok (.iconst 0, 1) := by decide +kernel
theorem dX9_isBase_15 : decode cX9_isBase 15 = .ok (.ireturn, 1) := by decide +kernel
theorem dX9_isCell_0 : decode cX9_isCell 0 = .ok (.iload_n 1, 1) := by decide +kernel
theorem dX9_isCell_1 : decode cX9_isCell 1 = .ok (.i2l, 1) := by decide +kernel
theorem dX9_isCell_2 : decode cX9_isCell 2 = .ok (.lconst 0, 1) := by decide +kernel
theorem dX9_isCell_3 : decode cX9_isCell 3 = .ok (.aload_n 0, 1) := by decide +kernel
theorem dX9_isCell_4 : decode cX9_isCell 4 = .ok (.invokevirtual 87, 3) := by decide +kernel
theorem dX9_isCell_7 : decode cX9_isCell 7 = .ok (.iconst 1, 1) := by decide +kernel
theorem dX9_isCell_8 : decode cX9_isCell 8 = .ok (.isub, 1) := by decide +kernel
theorem dX9_isCell_9 : decode cX9_isCell 9 = .ok (.i2l, 1) := by decide +kernel
theorem dX9_isCell_10 : decode cX9_isCell 10 = .ok (.invokestatic 76, 3) := by decide +kernel
theorem dX9_isCell_13 : decode cX9_isCell 13 = .ok (.ireturn, 1) := by decide +kernel
theorem dX9_isOp_0 : decode cX9_isOp 0 = .ok (.iload_n 1, 1) := by decide +kernel
theorem dX9_isOp_1 : decode cX9_isOp 1 = .ok (.i2l, 1) := by decide +kernel
theorem dX9_isOp_2 : decode cX9_isOp 2 = .ok (.lconst 0, 1) := by decide +kernel
theorem dX9_isOp_3 : decode cX9_isOp 3 = .ok (.aload_n 0, 1) := by decide +kernel
theorem dX9_isOp_4 : decode cX9_isOp 4 = .ok (.invokevirtual 84, 3) := by decide +kernel
theorem dX9_isOp_7 : decode cX9_isOp 7 = .ok (.iconst 1, 1) := by decide +kernel
theorem dX9_isOp_8 : decode cX9_isOp 8 = .ok (.isub, 1) := by decide +kernel
theorem dX9_isOp_9 : decode cX9_isOp 9 = .ok (.i2l, 1) := by decide +kernel
theorem dX9_isOp_10 : decode cX9_isOp 10 = .ok (.invokestatic 76, 3) := by decide +kernel
theorem dX9_isOp_13 : decode cX9_isOp 13 = .ok (.ireturn, 1) := by decide +kernel
theorem dX9_isRule_0 : decode cX9_isRule 0 = .ok (.iload_n 1, 1) := by decide +kernel
theorem dX9_isRule_1 : decode cX9_isRule 1 = .ok (.i2l, 1) := by decide +kernel
theorem dX9_isRule_2 : decode cX9_isRule 2 = .ok (.lconst 0, 1) := by decide +kernel
theorem dX9_isRule_3 : decode cX9_isRule 3 = .ok (.aload_n 0, 1) := by decide +kernel
theorem dX9_isRule_4 : decode cX9_isRule 4 = .ok (.invokevirtual 80, 3) := by decide +kernel
theorem dX9_isRule_7 : decode cX9_isRule 7 = .ok (.iconst 1, 1) := by decide +kernel
theorem dX9_isRule_8 : decode cX9_isRule 8 = .ok (.isub, 1) := by decide +kernel
theorem dX9_isRule_9 : decode cX9_isRule 9 = .ok (.i2l, 1) := by decide +kernel
theorem dX9_isRule_10 : decode cX9_isRule 10 = .ok (.invokestatic 76, 3) := by decide +kernel
theorem dX9_isRule_13 : decode cX9_isRule 13 = .ok (.ireturn, 1) := by decide +kernel
theorem dX9_isSlot_0 : decode cX9_isSlot 0 = .ok (.iload_n 0, 1) := by decide +kernel
theorem dX9_isSlot_1 : decode cX9_isSlot 1 = .ok (.i2l, 1) := by decide +kernel
theorem dX9_isSlot_2 : decode cX9_isSlot 2 = .ok (.lconst 0, 1) := by decide +kernel
theorem dX9_isSlot_3 : decode cX9_isSlot 3 = .ok (.ldc2_w 90, 3) := by decide +kernel
theorem dX9_isSlot_6 : decode cX9_isSlot 6 = .ok (.invokestatic 76, 3) := by decide +kernel
theorem dX9_isSlot_9 : decode cX9_isSlot 9 = .ok (.ireturn, 1) := by decide +kernel
theorem dX9_isState_0 : decode cX9_isState 0 = .ok (.aload_n 0, 1) := by decide +kernel
theorem dX9_isState_1 : decode cX9_isState 1 = .ok (.invokevirtual 92, 3) := by decide +kernel
theorem dX9_isState_4 : decode cX9_isState 4 = .ok (.ifCond .eq 22, 3) := by decide +kernel
theorem dX9_isState_26 : decode cX9_isState 26 = .ok (.iconst 0, 1) := by decide +kernel
theorem dX9_isState_27 : decode cX9_isState 27 = .ok (.ireturn, 1) := by decide +kernel
theorem dX9_ops_0 : decode cX9_ops 0 = .ok (.aload_n 0, 1) := by decide +kernel
theorem dX9_ops_1 : decode cX9_ops 1 = .ok (.getfield 9, 3) := by decide +kernel
theorem dX9_ops_4 : decode cX9_ops 4 = .ok (.iconst 5, 1) := by decide +kernel
theorem dX9_ops_5 : decode cX9_ops 5 = .ok (.iaload, 1) := by decide +kernel
theorem dX9_ops_6 : decode cX9_ops 6 = .ok (.ireturn, 1) := by decide +kernel
theorem dX9_rules_0 : decode cX9_rules 0 = .ok (.aload_n 0, 1) := by decide +kernel
theorem dX9_rules_1 : decode cX9_rules 1 = .ok (.getfield 9, 3) := by decide +kernel
theorem dX9_rules_4 : decode cX9_rules 4 = .ok (.iconst 4, 1) := by decide +kernel
theorem dX9_rules_5 : decode cX9_rules 5 = .ok (.iaload, 1) := by decide +kernel
theorem dX9_rules_6 : decode cX9_rules 6 = .ok (.ireturn, 1) := by decide +kernel
theorem iuX9_asItIs_X9 : ∀ w ∈ u_ws RX9 TX9 42, w ∈ W_X9_asItIs := fun w h => List.mem_cons_of_mem _ (List.mem_append_right _ (h))
theorem iuX9_cells_X9 : ∀ w ∈ u_ws RX9 TX9 42, w ∈ W_X9_cells := fun w h => List.mem_cons_of_mem _ (List.mem_append_right _ (h))
theorem iuX9_isBase_X9 : ∀ w ∈ u_ws RX9 TX9 42, w ∈ W_X9_isBase := fun w h => List.mem_cons_of_mem _ (List.mem_append_right _ (h))
theorem iuX9_ops_X9 : ∀ w ∈ u_ws RX9 TX9 42, w ∈ W_X9_ops := fun w h => List.mem_cons_of_mem _ (List.mem_append_right _ (h))
theorem iuX9_rules_X9 : ∀ w ∈ u_ws RX9 TX9 42, w ∈ W_X9_rules := fun w h => List.mem_cons_of_mem _ (List.mem_append_right _ (h))
theorem gw_X9_areTwo_X9_isOp : GoodIn W_X9_areTwo W_X9_isOp := fun w h => ⟨List.mem_cons_of_mem _ (List.mem_append_right _ (h)), (wI_X9_isOp w h).2⟩
theorem gc_X9_areTwo_267_X9_isOp : GoodIn W_X9_areTwo (wsV RX9 267 RX9 yX9_isOp W_X9_isOp) := goodIn_app (goodIn_sub (List.forall_mem_cons.mpr ⟨List.mem_cons_of_mem _ (List.mem_append_left _ (List.mem_of_getElem? (i := 0) rfl)), List.forall_mem_cons.mpr ⟨List.mem_cons_of_mem _ (List.mem_append_left _ (List.mem_of_getElem? (i := 1) rfl)), List.forall_mem_cons.mpr ⟨List.mem_cons_of_mem _ (List.mem_append_left _ (List.mem_of_getElem? (i := 2) rfl)), List.forall_mem_cons.mpr ⟨List.mem_cons_of_mem _ (List.mem_append_left _ (List.mem_of_getElem? (i := 3) rfl)), fun _ h => absurd h List.not_mem_nil⟩⟩⟩⟩) (by decide +kernel)) gw_X9_areTwo_X9_isOp
theorem gw_X9_askFits_X9_askSeen : GoodIn W_X9_askFits W_X9_askSeen := fun w h => ⟨List.mem_cons_of_mem _ (List.mem_append_right _ (List.mem_append_left _ (h))), (wI_X9_askSeen w h).2⟩
theorem gc_X9_askFits_443_X9_askSeen : GoodIn W_X9_askFits (wsV RX9 443 RX9 yX9_askSeen W_X9_askSeen) := goodIn_app (goodIn_sub (List.forall_mem_cons.mpr ⟨List.mem_cons_of_mem _ (List.mem_append_left _ (List.mem_of_getElem? (i := 0) rfl)), List.forall_mem_cons.mpr ⟨List.mem_cons_of_mem _ (List.mem_append_left _ (List.mem_of_getElem? (i := 1) rfl)), List.forall_mem_cons.mpr ⟨List.mem_cons_of_mem _ (List.mem_append_left _ (List.mem_of_getElem? (i := 2) rfl)), List.forall_mem_cons.mpr ⟨List.mem_cons_of_mem _ (List.mem_append_left _ (List.mem_of_getElem? (i := 3) rfl)), fun _ h => absurd h List.not_mem_nil⟩⟩⟩⟩) (by decide +kernel)) gw_X9_askFits_X9_askSeen
theorem gw_X9_askSeen_X9_isSlot : GoodIn W_X9_askSeen W_X9_isSlot := fun w h => ⟨List.mem_cons_of_mem _ (List.mem_append_right _ (List.mem_append_right _ (List.mem_append_left _ (h)))), (wI_X9_isSlot w h).2⟩
theorem gc_X9_askSeen_430_X9_isSlot : GoodIn W_X9_askSeen (va_wsS RX9 430 yX9_isSlot W_X9_isSlot) := goodIn_app (goodIn_sub (List.forall_mem_cons.mpr ⟨List.mem_cons_of_mem _ (List.mem_append_left _ (List.mem_of_getElem? (i := 0) rfl)), List.forall_mem_cons.mpr ⟨List.mem_cons_of_mem _ (List.mem_append_left _ (List.mem_of_getElem? (i := 1) rfl)), List.forall_mem_cons.mpr ⟨List.mem_cons_of_mem _ (List.mem_append_left _ (List.mem_of_getElem? (i := 2) rfl)), fun _ h => absurd h List.not_mem_nil⟩⟩⟩) (by decide +kernel)) gw_X9_askSeen_X9_isSlot
theorem gw_X9_askSeen_X9_isBase : GoodIn W_X9_askSeen W_X9_isBase := fun w h => ⟨List.mem_cons_of_mem _ (List.mem_append_right _ (List.mem_append_right _ (List.mem_append_right _ (List.mem_append_left _ (h))))), (wI_X9_isBase w h).2⟩
theorem gc_X9_askSeen_92_X9_isBase : GoodIn W_X9_askSeen (wsV RX9 92 RX9 yX9_isBase W_X9_isBase) := goodIn_app (goodIn_sub (List.forall_mem_cons.mpr ⟨List.mem_cons_of_mem _ (List.mem_append_left _ (List.mem_of_getElem? (i := 3) rfl)), List.forall_mem_cons.mpr ⟨List.mem_cons_of_mem _ (List.mem_append_left _ (List.mem_of_getElem? (i := 4) rfl)), List.forall_mem_cons.mpr ⟨List.mem_cons_of_mem _ (List.mem_append_left _ (List.mem_of_getElem? (i := 5) rfl)), List.forall_mem_cons.mpr ⟨List.mem_cons_of_mem _ (List.mem_append_left _ (List.mem_of_getElem? (i := 2) rfl)), fun _ h => absurd h List.not_mem_nil⟩⟩⟩⟩) (by decide +kernel)) gw_X9_askSeen_X9_isBase
theorem gw_X9_asks_X9_asItIs : GoodIn W_X9_asks W_X9_asItIs := fun w h => ⟨List.mem_cons_of_mem _ (List.mem_append_right _ (List.mem_append_left _ (h))), (wI_X9_asItIs w h).2⟩
theorem gc_X9_asks_308_X9_asItIs : GoodIn W_X9_asks (wsV RX9 308 RX9 yX9_asItIs W_X9_asItIs) := goodIn_app (goodIn_sub (List.forall_mem_cons.mpr ⟨List.mem_cons_of_mem _ (List.mem_append_left _ (List.mem_of_getElem? (i := 0) rfl)), List.forall_mem_cons.mpr ⟨List.mem_cons_of_mem _ (List.mem_append_left _ (List.mem_of_getElem? (i := 1) rfl)), List.forall_mem_cons.mpr ⟨List.mem_cons_of_mem _ (List.mem_append_left _ (List.mem_of_getElem? (i := 2) rfl)), List.forall_mem_cons.mpr ⟨List.mem_cons_of_mem _ (List.mem_append_left _ (List.mem_of_getElem? (i := 3) rfl)), fun _ h => absurd h List.not_mem_nil⟩⟩⟩⟩) (by decide +kernel)) gw_X9_asks_X9_asItIs
theorem gw_X9_asks_X9_isBase : GoodIn W_X9_asks W_X9_isBase := fun w h => ⟨List.mem_cons_of_mem _ (List.mem_append_right _ (List.mem_append_right _ (List.mem_append_left _ (h)))), (wI_X9_isBase w h).2⟩
theorem gc_X9_asks_92_X9_isBase : GoodIn W_X9_asks (wsV RX9 92 RX9 yX9_isBase W_X9_isBase) := goodIn_app (goodIn_sub (List.forall_mem_cons.mpr ⟨List.mem_cons_of_mem _ (List.mem_append_left _ (List.mem_of_getElem? (i := 4) rfl)), List.forall_mem_cons.mpr ⟨List.mem_cons_of_mem _ (List.mem_append_left _ (List.mem_of_getElem? (i := 5) rfl)), List.forall_mem_cons.mpr ⟨List.mem_cons_of_mem _ (List.mem_append_left _ (List.mem_of_getElem? (i := 6) rfl)), List.forall_mem_cons.mpr ⟨List.mem_cons_of_mem _ (List.mem_append_left _ (List.mem_of_getElem? (i := 3) rfl)), fun _ h => absurd h List.not_mem_nil⟩⟩⟩⟩) (by decide +kernel)) gw_X9_asks_X9_isBase
theorem gw_X9_asksChance_X9_isBase : GoodIn W_X9_asksChance W_X9_isBase := fun w h => ⟨List.mem_cons_of_mem _ (List.mem_append_right _ (List.mem_append_left _ (h))), (wI_X9_isBase w h).2⟩
theorem gc_X9_asksChance_92_X9_isBase : GoodIn W_X9_asksChance (wsV RX9 92 RX9 yX9_isBase W_X9_isBase) := goodIn_app (goodIn_sub (List.forall_mem_cons.mpr ⟨List.mem_cons_of_mem _ (List.mem_append_left _ (List.mem_of_getElem? (i := 0) rfl)), List.forall_mem_cons.mpr ⟨List.mem_cons_of_mem _ (List.mem_append_left _ (List.mem_of_getElem? (i := 1) rfl)), List.forall_mem_cons.mpr ⟨List.mem_cons_of_mem _ (List.mem_append_left _ (List.mem_of_getElem? (i := 2) rfl)), List.forall_mem_cons.mpr ⟨List.mem_cons_of_mem _ (List.mem_append_left _ (List.mem_of_getElem? (i := 3) rfl)), fun _ h => absurd h List.not_mem_nil⟩⟩⟩⟩) (by decide +kernel)) gw_X9_asksChance_X9_isBase
theorem gw_X9_asksIn_X9_asks : GoodIn W_X9_asksIn W_X9_asks := fun w h => ⟨List.mem_cons_of_mem _ (List.mem_append_right _ (List.mem_append_left _ (h))), (wI_X9_asks w h).2⟩
theorem gc_X9_asksIn_318_X9_asks : GoodIn W_X9_asksIn (wsV RX9 318 RX9 yX9_asks W_X9_asks) := goodIn_app (goodIn_sub (List.forall_mem_cons.mpr ⟨List.mem_cons_of_mem _ (List.mem_append_left _ (List.mem_of_getElem? (i := 0) rfl)), List.forall_mem_cons.mpr ⟨List.mem_cons_of_mem _ (List.mem_append_left _ (List.mem_of_getElem? (i := 1) rfl)), List.forall_mem_cons.mpr ⟨List.mem_cons_of_mem _ (List.mem_append_left _ (List.mem_of_getElem? (i := 2) rfl)), List.forall_mem_cons.mpr ⟨List.mem_cons_of_mem _ (List.mem_append_left _ (List.mem_of_getElem? (i := 3) rfl)), fun _ h => absurd h List.not_mem_nil⟩⟩⟩⟩) (by decide +kernel)) gw_X9_asksIn_X9_asks
theorem gw_X9_asksLocks_X9_asks : GoodIn W_X9_asksLocks W_X9_asks := fun w h => ⟨List.mem_cons_of_mem _ (List.mem_append_right _ (List.mem_append_left _ (h))), (wI_X9_asks w h).2⟩
theorem gc_X9_asksLocks_318_X9_asks : GoodIn W_X9_asksLocks (wsV RX9 318 RX9 yX9_asks W_X9_asks) := goodIn_app (goodIn_sub (List.forall_mem_cons.mpr ⟨List.mem_cons_of_mem _ (List.mem_append_left _ (List.mem_of_getElem? (i := 0) rfl)), List.forall_mem_cons.mpr ⟨List.mem_cons_of_mem _ (List.mem_append_left _ (List.mem_of_getElem? (i := 1) rfl)), List.forall_mem_cons.mpr ⟨List.mem_cons_of_mem _ (List.mem_append_left _ (List.mem_of_getElem? (i := 2) rfl)), List.forall_mem_cons.mpr ⟨List.mem_cons_of_mem _ (List.mem_append_left _ (List.mem_of_getElem? (i := 3) rfl)), fun _ h => absurd h List.not_mem_nil⟩⟩⟩⟩) (by decide +kernel)) gw_X9_asksLocks_X9_asks
theorem gw_X9_asksSides_X9_asks : GoodIn W_X9_asksSides W_X9_asks := fun w h => ⟨List.mem_cons_of_mem _ (List.mem_append_right _ (List.mem_append_left _ (h))), (wI_X9_asks w h).2⟩
theorem gc_X9_asksSides_318_X9_asks : GoodIn W_X9_asksSides (wsV RX9 318 RX9 yX9_asks W_X9_asks) := goodIn_app (goodIn_sub (List.forall_mem_cons.mpr ⟨List.mem_cons_of_mem _ (List.mem_append_left _ (List.mem_of_getElem? (i := 0) rfl)), List.forall_mem_cons.mpr ⟨List.mem_cons_of_mem _ (List.mem_append_left _ (List.mem_of_getElem? (i := 1) rfl)), List.forall_mem_cons.mpr ⟨List.mem_cons_of_mem _ (List.mem_append_left _ (List.mem_of_getElem? (i := 2) rfl)), List.forall_mem_cons.mpr ⟨List.mem_cons_of_mem _ (List.mem_append_left _ (List.mem_of_getElem? (i := 3) rfl)), fun _ h => absurd h List.not_mem_nil⟩⟩⟩⟩) (by decide +kernel)) gw_X9_asksSides_X9_asks
theorem gw_X9_isCell_X9_in : GoodIn W_X9_isCell W_X9_in := fun w h => ⟨List.mem_cons_of_mem _ (List.mem_append_right _ (List.mem_append_right _ (h))), (wI_X9_in w h).2⟩
theorem gc_X9_isCell_76_X9_in : GoodIn W_X9_isCell (va_wsS RX9 76 yX9_in W_X9_in) := goodIn_app (goodIn_sub (List.forall_mem_cons.mpr ⟨List.mem_cons_of_mem _ (List.mem_append_left _ (List.mem_of_getElem? (i := 4) rfl)), List.forall_mem_cons.mpr ⟨List.mem_cons_of_mem _ (List.mem_append_left _ (List.mem_of_getElem? (i := 5) rfl)), List.forall_mem_cons.mpr ⟨List.mem_cons_of_mem _ (List.mem_append_left _ (List.mem_of_getElem? (i := 3) rfl)), fun _ h => absurd h List.not_mem_nil⟩⟩⟩) (by decide +kernel)) gw_X9_isCell_X9_in
theorem gw_X9_isCell_X9_cells : GoodIn W_X9_isCell W_X9_cells := fun w h => ⟨List.mem_cons_of_mem _ (List.mem_append_right _ (List.mem_append_left _ (h))), (wI_X9_cells w h).2⟩
theorem gc_X9_isCell_87_X9_cells : GoodIn W_X9_isCell (wsV RX9 87 RX9 yX9_cells W_X9_cells) := goodIn_app (goodIn_sub (List.forall_mem_cons.mpr ⟨List.mem_cons_of_mem _ (List.mem_append_left _ (List.mem_of_getElem? (i := 0) rfl)), List.forall_mem_cons.mpr ⟨List.mem_cons_of_mem _ (List.mem_append_left _ (List.mem_of_getElem? (i := 1) rfl)), List.forall_mem_cons.mpr ⟨List.mem_cons_of_mem _ (List.mem_append_left _ (List.mem_of_getElem? (i := 2) rfl)), List.forall_mem_cons.mpr ⟨List.mem_cons_of_mem _ (List.mem_append_left _ (List.mem_of_getElem? (i := 3) rfl)), fun _ h => absurd h List.not_mem_nil⟩⟩⟩⟩) (by decide +kernel)) gw_X9_isCell_X9_cells
theorem gw_X9_isOp_X9_in : GoodIn W_X9_isOp W_X9_in := fun w h => ⟨List.mem_cons_of_mem _ (List.mem_append_right _ (List.mem_append_right _ (h))), (wI_X9_in w h).2⟩
theorem gc_X9_isOp_76_X9_in : GoodIn W_X9_isOp (va_wsS RX9 76 yX9_in W_X9_in) := goodIn_app (goodIn_sub (List.forall_mem_cons.mpr ⟨List.mem_cons_of_mem _ (List.mem_append_left _ (List.mem_of_getElem? (i := 4) rfl)), List.forall_mem_cons.mpr ⟨List.mem_cons_of_mem _ (List.mem_append_left _ (List.mem_of_getElem? (i := 5) rfl)), List.forall_mem_cons.mpr ⟨List.mem_cons_of_mem _ (List.mem_append_left _ (List.mem_of_getElem? (i := 3) rfl)), fun _ h => absurd h List.not_mem_nil⟩⟩⟩) (by decide +kernel)) gw_X9_isOp_X9_in
theorem gw_X9_isOp_X9_ops : GoodIn W_X9_isOp W_X9_ops := fun w h => ⟨List.mem_cons_of_mem _ (List.mem_append_right _ (List.mem_append_left _ (h))), (wI_X9_ops w h).2⟩
theorem gc_X9_isOp_84_X9_ops : GoodIn W_X9_isOp (wsV RX9 84 RX9 yX9_ops W_X9_ops) := goodIn_app (goodIn_sub (List.forall_mem_cons.mpr ⟨List.mem_cons_of_mem _ (List.mem_append_left _ (List.mem_of_getElem? (i := 0) rfl)), List.forall_mem_cons.mpr ⟨List.mem_cons_of_mem _ (List.mem_append_left _ (List.mem_of_getElem? (i := 1) rfl)), List.forall_mem_cons.mpr ⟨List.mem_cons_of_mem _ (List.mem_append_left _ (List.mem_of_getElem? (i := 2) rfl)), List.forall_mem_cons.mpr ⟨List.mem_cons_of_mem _ (List.mem_append_left _ (List.mem_of_getElem? (i := 3) rfl)), fun _ h => absurd h List.not_mem_nil⟩⟩⟩⟩) (by decide +kernel)) gw_X9_isOp_X9_ops
theorem gw_X9_isRule_X9_in : GoodIn W_X9_isRule W_X9_in := fun w h => ⟨List.mem_cons_of_mem _ (List.mem_append_right _ (List.mem_append_right _ (h))), (wI_X9_in w h).2⟩
theorem gc_X9_isRule_76_X9_in : GoodIn W_X9_isRule (va_wsS RX9 76 yX9_in W_X9_in) := goodIn_app (goodIn_sub (List.forall_mem_cons.mpr ⟨List.mem_cons_of_mem _ (List.mem_append_left _ (List.mem_of_getElem? (i := 4) rfl)), List.forall_mem_cons.mpr ⟨List.mem_cons_of_mem _ (List.mem_append_left _ (List.mem_of_getElem? (i := 5) rfl)), List.forall_mem_cons.mpr ⟨List.mem_cons_of_mem _ (List.mem_append_left _ (List.mem_of_getElem? (i := 3) rfl)), fun _ h => absurd h List.not_mem_nil⟩⟩⟩) (by decide +kernel)) gw_X9_isRule_X9_in
theorem gw_X9_isRule_X9_rules : GoodIn W_X9_isRule W_X9_rules := fun w h => ⟨List.mem_cons_of_mem _ (List.mem_append_right _ (List.mem_append_left _ (h))), (wI_X9_rules w h).2⟩
theorem gc_X9_isRule_80_X9_rules : GoodIn W_X9_isRule (wsV RX9 80 RX9 yX9_rules W_X9_rules) := goodIn_app (goodIn_sub (List.forall_mem_cons.mpr ⟨List.mem_cons_of_mem _ (List.mem_append_left _ (List.mem_of_getElem? (i := 0) rfl)), List.forall_mem_cons.mpr ⟨List.mem_cons_of_mem _ (List.mem_append_left _ (List.mem_of_getElem? (i := 1) rfl)), List.forall_mem_cons.mpr ⟨List.mem_cons_of_mem _ (List.mem_append_left _ (List.mem_of_getElem? (i := 2) rfl)), List.forall_mem_cons.mpr ⟨List.mem_cons_of_mem _ (List.mem_append_left _ (List.mem_of_getElem? (i := 3) rfl)), fun _ h => absurd h List.not_mem_nil⟩⟩⟩⟩) (by decide +kernel)) gw_X9_isRule_X9_rules
theorem gw_X9_isSlot_X9_in : GoodIn W_X9_isSlot W_X9_in := fun w h => ⟨List.mem_cons_of_mem _ (List.mem_append_right _ (h)), (wI_X9_in w h).2⟩
theorem gc_X9_isSlot_76_X9_in : GoodIn W_X9_isSlot (va_wsS RX9 76 yX9_in W_X9_in) := goodIn_app (goodIn_sub (List.forall_mem_cons.mpr ⟨List.mem_cons_of_mem _ (List.mem_append_left _ (List.mem_of_getElem? (i := 1) rfl)), List.forall_mem_cons.mpr ⟨List.mem_cons_of_mem _ (List.mem_append_left _ (List.mem_of_getElem? (i := 2) rfl)), List.forall_mem_cons.mpr ⟨List.mem_cons_of_mem _ (List.mem_append_left _ (List.mem_of_getElem? (i := 3) rfl)), fun _ h => absurd h List.not_mem_nil⟩⟩⟩) (by decide +kernel)) gw_X9_isSlot_X9_in
theorem gw_X9_isState_X9_isBase : GoodIn W_X9_isState W_X9_isBase := fun w h => ⟨List.mem_cons_of_mem _ (List.mem_append_right _ (List.mem_append_left _ (h))), (wI_X9_isBase w h).2⟩
theorem gc_X9_isState_92_X9_isBase : GoodIn W_X9_isState (wsV RX9 92 RX9 yX9_isBase W_X9_isBase) := goodIn_app (goodIn_sub (List.forall_mem_cons.mpr ⟨List.mem_cons_of_mem _ (List.mem_append_left _ (List.mem_of_getElem? (i := 0) rfl)), List.forall_mem_cons.mpr ⟨List.mem_cons_of_mem _ (List.mem_append_left _ (List.mem_of_getElem? (i := 1) rfl)), List.forall_mem_cons.mpr ⟨List.mem_cons_of_mem _ (List.mem_append_left _ (List.mem_of_getElem? (i := 2) rfl)), List.forall_mem_cons.mpr ⟨List.mem_cons_of_mem _ (List.mem_append_left _ (List.mem_of_getElem? (i := 3) rfl)), fun _ h => absurd h List.not_mem_nil⟩⟩⟩⟩) (by decide +kernel)) gw_X9_isState_X9_isBase
