theorem dX8_isTold_0 : decode cX8_isTold 0 = .ok (.aload_n 0, 1) := by decide +kernel
theorem dX8_isTold_1 : decode cX8_isTold 1 = .ok (.getfield 23, 3) := by decide +kernel
theorem dX8_isTold_4 : decode cX8_isTold 4 = .ok (.getfield 91, 3) := by decide +kernel
theorem dX8_isTold_7 : decode cX8_isTold 7 = .ok (.ifCond .le 7, 3) := by decide +kernel
theorem dX8_isTold_14 : decode cX8_isTold 14 = .ok (.iconst 0, 1) := by decide +kernel
theorem dX8_isTold_15 : decode cX8_isTold 15 = .ok (.ireturn, 1) := by decide +kernel
theorem dX8_noCell_0 : decode cX8_noCell 0 = .ok (.iload_n 1, 1) := by decide +kernel
theorem dX8_noCell_1 : decode cX8_noCell 1 = .ok (.ifCond .lt 14, 3) := by decide +kernel
theorem dX8_noCell_4 : decode cX8_noCell 4 = .ok (.iload_n 1, 1) := by decide +kernel
theorem dX8_noCell_5 : decode cX8_noCell 5 = .ok (.aload_n 0, 1) := by decide +kernel
theorem dX8_noCell_6 : decode cX8_noCell 6 = .ok (.getfield 23, 3) := by decide +kernel
theorem dX8_noCell_9 : decode cX8_noCell 9 = .ok (.getfield 158, 3) := by decide +kernel
theorem dX8_noCell_12 : decode cX8_noCell 12 = .ok (.if_icmp .lt 7, 3) := by decide +kernel
theorem dX8_noCell_15 : decode cX8_noCell 15 = .ok (.iconst 1, 1) := by decide +kernel
theorem dX8_noCell_16 : decode cX8_noCell 16 = .ok (.goto 4, 3) := by decide +kernel
theorem dX8_noCell_20 : decode cX8_noCell 20 = .ok (.ireturn, 1) := by decide +kernel
theorem dX8_noDepth_0 : decode cX8_noDepth 0 = .ok (.aload_n 0, 1) := by decide +kernel
theorem dX8_noDepth_1 : decode cX8_noDepth 1 = .ok (.invokevirtual 120, 3) := by decide +kernel
theorem dX8_noDepth_4 : decode cX8_noDepth 4 = .ok (.ifCond .eq 12, 3) := by decide +kernel
theorem dX8_noDepth_16 : decode cX8_noDepth 16 = .ok (.iconst 1, 1) := by decide +kernel
theorem dX8_noDepth_17 : decode cX8_noDepth 17 = .ok (.goto 4, 3) := by decide +kernel
theorem dX8_noDepth_21 : decode cX8_noDepth 21 = .ok (.ireturn, 1) := by decide +kernel
theorem dX8_noGame_0 : decode cX8_noGame 0 = .ok (.aload_n 0, 1) := by decide +kernel
theorem dX8_noGame_1 : decode cX8_noGame 1 = .ok (.iload_n 1, 1) := by decide +kernel
theorem dX8_noGame_2 : decode cX8_noGame 2 = .ok (.invokevirtual 114, 3) := by decide +kernel
theorem dX8_noGame_5 : decode cX8_noGame 5 = .ok (.ifCond .ne 16, 3) := by decide +kernel
theorem dX8_noGame_21 : decode cX8_noGame 21 = .ok (.iconst 1, 1) := by decide +kernel
theorem dX8_noGame_22 : decode cX8_noGame 22 = .ok (.goto 4, 3) := by decide +kernel
theorem dX8_noGame_26 : decode cX8_noGame 26 = .ok (.ireturn, 1) := by decide +kernel
theorem dX8_noOp_0 : decode cX8_noOp 0 = .ok (.iload_n 1, 1) := by decide +kernel
theorem dX8_noOp_1 : decode cX8_noOp 1 = .ok (.ifCond .lt 14, 3) := by decide +kernel
theorem dX8_noOp_4 : decode cX8_noOp 4 = .ok (.iload_n 1, 1) := by decide +kernel
theorem dX8_noOp_5 : decode cX8_noOp 5 = .ok (.aload_n 0, 1) := by decide +kernel
theorem dX8_noOp_6 : decode cX8_noOp 6 = .ok (.getfield 23, 3) := by decide +kernel
theorem dX8_noOp_9 : decode cX8_noOp 9 = .ok (.getfield 183, 3) := by decide +kernel
theorem dX8_noOp_12 : decode cX8_noOp 12 = .ok (.if_icmp .lt 7, 3) := by decide +kernel
theorem dX8_noOp_15 : decode cX8_noOp 15 = .ok (.iconst 1, 1) := by decide +kernel
theorem dX8_noOp_16 : decode cX8_noOp 16 = .ok (.goto 4, 3) := by decide +kernel
theorem dX8_noOp_20 : decode cX8_noOp 20 = .ok (.ireturn, 1) := by decide +kernel
theorem dX8_noRule_0 : decode cX8_noRule 0 = .ok (.iload_n 1, 1) := by decide +kernel
theorem dX8_noRule_1 : decode cX8_noRule 1 = .ok (.ifCond .lt 14, 3) := by decide +kernel
theorem dX8_noRule_4 : decode cX8_noRule 4 = .ok (.iload_n 1, 1) := by decide +kernel
theorem dX8_noRule_5 : decode cX8_noRule 5 = .ok (.aload_n 0, 1) := by decide +kernel
theorem dX8_noRule_6 : decode cX8_noRule 6 = .ok (.getfield 23, 3) := by decide +kernel
theorem dX8_noRule_9 : decode cX8_noRule 9 = .ok (.getfield 164, 3) := by decide +kernel
theorem dX8_noRule_12 : decode cX8_noRule 12 = .ok (.if_icmp .lt 7, 3) := by decide +kernel
theorem dX8_noRule_15 : decode cX8_noRule 15 = .ok (.iconst 1, 1) := by decide +kernel
theorem dX8_noRule_16 : decode cX8_noRule 16 = .ok (.goto 4, 3) := by decide +kernel
theorem dX8_noRule_20 : decode cX8_noRule 20 = .ok (.ireturn, 1) := by decide +kernel
theorem dX8_noSlot_0 : decode cX8_noSlot 0 = .ok (.iload_n 1, 1) := by decide +kernel
theorem dX8_noSlot_1 : decode cX8_noSlot 1 = .ok (.ifCond .lt 8, 3) := by decide +kernel
theorem dX8_noSlot_4 : decode cX8_noSlot 4 = .ok (.iload_n 1, 1) := by decide +kernel
theorem dX8_noSlot_5 : decode cX8_noSlot 5 = .ok (.iconst 4, 1) := by decide +kernel
theorem dX8_noSlot_6 : decode cX8_noSlot 6 = .ok (.if_icmp .lt 7, 3) := by decide +kernel
theorem dX8_noSlot_9 : decode cX8_noSlot 9 = .ok (.iconst 1, 1) := by decide +kernel
theorem dX8_noSlot_10 : decode cX8_noSlot 10 = .ok (.goto 4, 3) := by decide +kernel
theorem dX8_noSlot_13 : decode cX8_noSlot 13 = .ok (.iconst 0, 1) := by decide +kernel
theorem dX8_noSlot_14 : decode cX8_noSlot 14 = .ok (.ireturn, 1) := by decide +kernel
theorem dX8_noState_0 : decode cX8_noState 0 = .ok (.iload_n 1, 1) := by decide +kernel
theorem dX8_noState_1 : decode cX8_noState 1 = .ok (.ifCond .lt 14, 3) := by decide +kernel
theorem dX8_noState_4 : decode cX8_noState 4 = .ok (.iload_n 1, 1) := by decide +kernel
theorem dX8_noState_5 : decode cX8_noState 5 = .ok (.aload_n 0, 1) := by decide +kernel
theorem dX8_noState_6 : decode cX8_noState 6 = .ok (.getfield 38, 3) := by decide +kernel
theorem dX8_noState_9 : decode cX8_noState 9 = .ok (.getfield 123, 3) := by decide +kernel
theorem dX8_noState_12 : decode cX8_noState 12 = .ok (.if_icmp .lt 7, 3) := by decide +kernel
theorem dX8_noState_15 : decode cX8_noState 15 = .ok (.iconst 1, 1) := by decide +kernel
theorem dX8_noState_16 : decode cX8_noState 16 = .ok (.goto 4, 3) := by decide +kernel
theorem dX8_noState_20 : decode cX8_noState 20 = .ok (.ireturn, 1) := by decide +kernel
theorem iuX8_isTold_X0 : ∀ w ∈ u_ws RX0 TX0 15, w ∈ W_X8_isTold := fun w h => List.mem_cons_of_mem _ (List.mem_append_right _ (List.mem_append_right _ (h)))
theorem iuX8_isTold_X8 : ∀ w ∈ u_ws RX8 TX8 10, w ∈ W_X8_isTold := fun w h => List.mem_cons_of_mem _ (List.mem_append_right _ (List.mem_append_left _ (h)))
theorem iuX8_noCell_X0 : ∀ w ∈ u_ws RX0 TX0 15, w ∈ W_X8_noCell := fun w h => List.mem_cons_of_mem _ (List.mem_append_right _ (List.mem_append_right _ (h)))
theorem iuX8_noCell_X8 : ∀ w ∈ u_ws RX8 TX8 10, w ∈ W_X8_noCell := fun w h => List.mem_cons_of_mem _ (List.mem_append_right _ (List.mem_append_left _ (h)))
theorem iuX8_noOp_X0 : ∀ w ∈ u_ws RX0 TX0 15, w ∈ W_X8_noOp := fun w h => List.mem_cons_of_mem _ (List.mem_append_right _ (List.mem_append_right _ (h)))
theorem iuX8_noOp_X8 : ∀ w ∈ u_ws RX8 TX8 10, w ∈ W_X8_noOp := fun w h => List.mem_cons_of_mem _ (List.mem_append_right _ (List.mem_append_left _ (h)))
theorem iuX8_noRule_X0 : ∀ w ∈ u_ws RX0 TX0 15, w ∈ W_X8_noRule := fun w h => List.mem_cons_of_mem _ (List.mem_append_right _ (List.mem_append_right _ (h)))
theorem iuX8_noRule_X8 : ∀ w ∈ u_ws RX8 TX8 10, w ∈ W_X8_noRule := fun w h => List.mem_cons_of_mem _ (List.mem_append_right _ (List.mem_append_left _ (h)))
theorem iuX8_noState_X6 : ∀ w ∈ u_ws RX6 TX6 8, w ∈ W_X8_noState := fun w h => List.mem_cons_of_mem _ (List.mem_append_right _ (List.mem_append_right _ (h)))
theorem iuX8_noState_X8 : ∀ w ∈ u_ws RX8 TX8 10, w ∈ W_X8_noState := fun w h => List.mem_cons_of_mem _ (List.mem_append_right _ (List.mem_append_left _ (h)))
theorem gw_X8_noDepth_X8_isTold : GoodIn W_X8_noDepth W_X8_isTold := fun w h => ⟨List.mem_cons_of_mem _ (List.mem_append_right _ (h)), (wI_X8_isTold w h).2⟩
theorem gc_X8_noDepth_120_X8_isTold : GoodIn W_X8_noDepth (wsV RX8 120 RX8 yX8_isTold W_X8_isTold) := goodIn_app (goodIn_sub (List.forall_mem_cons.mpr ⟨List.mem_cons_of_mem _ (List.mem_append_left _ (List.mem_of_getElem? (i := 0) rfl)), List.forall_mem_cons.mpr ⟨List.mem_cons_of_mem _ (List.mem_append_left _ (List.mem_of_getElem? (i := 1) rfl)), List.forall_mem_cons.mpr ⟨List.mem_cons_of_mem _ (List.mem_append_left _ (List.mem_of_getElem? (i := 2) rfl)), List.forall_mem_cons.mpr ⟨List.mem_cons_of_mem _ (List.mem_append_left _ (List.mem_of_getElem? (i := 3) rfl)), fun _ h => absurd h List.not_mem_nil⟩⟩⟩⟩) (by decide +kernel)) gw_X8_noDepth_X8_isTold
theorem gw_X8_noGame_X8_noOp : GoodIn W_X8_noGame W_X8_noOp := fun w h => ⟨List.mem_cons_of_mem _ (List.mem_append_right _ (h)), (wI_X8_noOp w h).2⟩
theorem gc_X8_noGame_114_X8_noOp : GoodIn W_X8_noGame (wsV RX8 114 RX8 yX8_noOp W_X8_noOp) := goodIn_app (goodIn_sub (List.forall_mem_cons.mpr ⟨List.mem_cons_of_mem _ (List.mem_append_left _ (List.mem_of_getElem? (i := 0) rfl)), List.forall_mem_cons.mpr ⟨List.mem_cons_of_mem _ (List.mem_append_left _ (List.mem_of_getElem? (i := 1) rfl)), List.forall_mem_cons.mpr ⟨List.mem_cons_of_mem _ (List.mem_append_left _ (List.mem_of_getElem? (i := 2) rfl)), List.forall_mem_cons.mpr ⟨List.mem_cons_of_mem _ (List.mem_append_left _ (List.mem_of_getElem? (i := 3) rfl)), fun _ h => absurd h List.not_mem_nil⟩⟩⟩⟩) (by decide +kernel)) gw_X8_noGame_X8_noOp
