theorem dX9_added_0 : decode cX9_added 0 = .ok (.aload_n 0, 1) := by decide +kernel
theorem dX9_added_1 : decode cX9_added 1 = .ok (.iload_n 1, 1) := by decide +kernel
theorem dX9_added_2 : decode cX9_added 2 = .ok (.iload_n 2, 1) := by decide +kernel
theorem dX9_added_3 : decode cX9_added 3 = .ok (.invokevirtual 285, 3) := by decide +kernel
theorem dX9_added_6 : decode cX9_added 6 = .ok (.iload_n 3, 1) := by decide +kernel
theorem dX9_added_7 : decode cX9_added 7 = .ok (.iadd, 1) := by decide +kernel
theorem dX9_added_8 : decode cX9_added 8 = .ok (.istore 4, 2) := by decide +kernel
theorem dX9_added_10 : decode cX9_added 10 = .ok (.iload 4, 2) := by decide +kernel
theorem dX9_added_12 : decode cX9_added 12 = .ok (.i2l, 1) := by decide +kernel
theorem dX9_added_13 : decode cX9_added 13 = .ok (.lconst 0, 1) := by decide +kernel
theorem dX9_added_14 : decode cX9_added 14 = .ok (.aload_n 0, 1) := by decide +kernel
theorem dX9_added_15 : decode cX9_added 15 = .ok (.getfield 9, 3) := by decide +kernel
theorem dX9_added_18 : decode cX9_added 18 = .ok (.iconst 0, 1) := by decide +kernel
theorem dX9_added_19 : decode cX9_added 19 = .ok (.iaload, 1) := by decide +kernel
theorem dX9_added_20 : decode cX9_added 20 = .ok (.i2l, 1) := by decide +kernel
theorem dX9_added_21 : decode cX9_added 21 = .ok (.invokestatic 76, 3) := by decide +kernel
theorem dX9_added_24 : decode cX9_added 24 = .ok (.ifCond .eq 14, 3) := by decide +kernel
theorem dX9_added_27 : decode cX9_added 27 = .ok (.aload_n 0, 1) := by decide +kernel
theorem dX9_added_28 : decode cX9_added 28 = .ok (.iload_n 1, 1) := by decide +kernel
theorem dX9_added_29 : decode cX9_added 29 = .ok (.iload_n 2, 1) := by decide +kernel
theorem dX9_added_30 : decode cX9_added 30 = .ok (.iload 4, 2) := by decide +kernel
theorem dX9_added_32 : decode cX9_added 32 = .ok (.invokevirtual 295, 3) := by decide +kernel
theorem dX9_added_35 : decode cX9_added 35 = .ok (.goto 4, 3) := by decide +kernel
theorem dX9_added_38 : decode cX9_added 38 = .ok (.iconst (-1), 1) := by decide +kernel
theorem dX9_added_39 : decode cX9_added 39 = .ok (.ireturn, 1) := by decide +kernel
theorem dX9_allOps_0 : decode cX9_allOps 0 = .ok (.iconst 1, 1) := by decide +kernel
theorem dX9_allOps_1 : decode cX9_allOps 1 = .ok (.aload_n 0, 1) := by decide +kernel
theorem dX9_allOps_2 : decode cX9_allOps 2 = .ok (.invokevirtual 84, 3) := by decide +kernel
theorem dX9_allOps_5 : decode cX9_allOps 5 = .ok (.ishl, 1) := by decide +kernel
theorem dX9_allOps_6 : decode cX9_allOps 6 = .ok (.iconst 1, 1) := by decide +kernel
theorem dX9_allOps_7 : decode cX9_allOps 7 = .ok (.isub, 1) := by decide +kernel
theorem dX9_allOps_8 : decode cX9_allOps 8 = .ok (.ireturn, 1) := by decide +kernel
theorem dX9_allRules_0 : decode cX9_allRules 0 = .ok (.iconst 1, 1) := by decide +kernel
theorem dX9_allRules_1 : decode cX9_allRules 1 = .ok (.aload_n 0, 1) := by decide +kernel
theorem dX9_allRules_2 : decode cX9_allRules 2 = .ok (.invokevirtual 80, 3) := by decide +kernel
theorem dX9_allRules_5 : decode cX9_allRules 5 = .ok (.ishl, 1) := by decide +kernel
theorem dX9_allRules_6 : decode cX9_allRules 6 = .ok (.iconst 1, 1) := by decide +kernel
theorem dX9_allRules_7 : decode cX9_allRules 7 = .ok (.isub, 1) := by decide +kernel
theorem dX9_allRules_8 : decode cX9_allRules 8 = .ok (.ireturn, 1) := by decide +kernel
theorem dX9_bit_0 : decode cX9_bit 0 = .ok (.iload_n 0, 1) := by decide +kernel
theorem dX9_bit_1 : decode cX9_bit 1 = .ok (.iload_n 1, 1) := by decide +kernel
theorem dX9_bit_2 : decode cX9_bit 2 = .ok (.ishr, 1) := by decide +kernel
theorem dX9_bit_3 : decode cX9_bit 3 = .ok (.iconst 1, 1) := by decide +kernel
theorem dX9_bit_4 : decode cX9_bit 4 = .ok (.iand, 1) := by decide +kernel
theorem dX9_bit_5 : decode cX9_bit 5 = .ok (.ireturn, 1) := by decide +kernel
theorem dX9_bits_0 : decode cX9_bits 0 = .ok (.iconst 0, 1) := by decide +kernel
theorem dX9_bits_1 : decode cX9_bits 1 = .ok (.istore_n 1, 1) := by decide +kernel
theorem dX9_bits_2 : decode cX9_bits 2 = .ok (.iconst 0, 1) := by decide +kernel
theorem dX9_bits_3 : decode cX9_bits 3 = .ok (.istore_n 2, 1) := by decide +kernel
theorem dX9_bits_4 : decode cX9_bits 4 = .ok (.iload_n 2, 1) := by decide +kernel
theorem dX9_bits_5 : decode cX9_bits 5 = .ok (.bipush 16, 2) := by decide +kernel
theorem dX9_bits_7 : decode cX9_bits 7 = .ok (.if_icmp .ge 17, 3) := by decide +kernel
theorem dX9_bits_10 : decode cX9_bits 10 = .ok (.iload_n 1, 1) := by decide +kernel
theorem dX9_bits_11 : decode cX9_bits 11 = .ok (.iload_n 0, 1) := by decide +kernel
theorem dX9_bits_12 : decode cX9_bits 12 = .ok (.iload_n 2, 1) := by decide +kernel
theorem dX9_bits_13 : decode cX9_bits 13 = .ok (.ishr, 1) := by decide +kernel
theorem dX9_bits_14 : decode cX9_bits 14 = .ok (.iconst 1, 1) := by decide +kernel
theorem dX9_bits_15 : decode cX9_bits 15 = .ok (.iand, 1) := by decide +kernel
theorem dX9_bits_16 : decode cX9_bits 16 = .ok (.iadd, 1) := by decide +kernel
theorem dX9_bits_17 : decode cX9_bits 17 = .ok (.istore_n 1, 1) := by decide +kernel
theorem dX9_bits_18 : decode cX9_bits 18 = .ok (.iinc 2 1, 3) := by decide +kernel
theorem dX9_bits_21 : decode cX9_bits 21 = .ok (.goto (-17), 3) := by decide +kernel
theorem dX9_bits_24 : decode cX9_bits 24 = .ok (.iload_n 1, 1) := by decide +kernel
theorem dX9_bits_25 : decode cX9_bits 25 = .ok (.ireturn, 1) := by decide +kernel
theorem dX9_cells_0 : decode cX9_cells 0 = .ok (.aload_n 0, 1) := by decide +kernel
theorem dX9_cells_1 : decode cX9_cells 1 = .ok (.getfield 9, 3) := by decide +kernel
theorem dX9_cells_4 : decode cX9_cells 4 = .ok (.iconst 3, 1) := by decide +kernel
theorem dX9_cells_5 : decode cX9_cells 5 = .ok (.iaload, 1) := by decide +kernel
theorem dX9_cells_6 : decode cX9_cells 6 = .ok (.ireturn, 1) := by decide +kernel
theorem dX9_in_0 : decode cX9_in 0 = .ok (.lload_n 0, 1) := by decide +kernel
theorem dX9_in_1 : decode cX9_in 1 = .ok (.lload_n 2, 1) := by decide +kernel
theorem dX9_in_2 : decode cX9_in 2 = .ok (.lcmp, 1) := by decide +kernel
theorem dX9_in_3 : decode cX9_in 3 = .ok (.ifCond .lt 14, 3) := by decide +kernel
theorem dX9_in_6 : decode cX9_in 6 = .ok (.lload_n 0, 1) := by decide +kernel
theorem dX9_in_7 : decode cX9_in 7 = .ok (.lload 4, 2) := by decide +kernel
theorem dX9_in_9 : decode cX9_in 9 = .ok (.lcmp, 1) := by decide +kernel
theorem dX9_in_10 : decode cX9_in 10 = .ok (.ifCond .gt 7, 3) := by decide +kernel
theorem dX9_in_13 : decode cX9_in 13 = .ok (.iconst 1, 1) := by decide +kernel
theorem dX9_in_14 : decode cX9_in 14 = .ok (.goto 4, 3) := by decide +kernel
theorem dX9_in_17 : decode cX9_in 17 = .ok (.iconst 0, 1) := by decide +kernel
theorem dX9_in_18 : decode cX9_in 18 = .ok (.ireturn, 1) := by decide +kernel
theorem dX9_isBase_0 : decode cX9_isBase 0 = .ok (.aload_n 0, 1) := by decide +kernel
theorem dX9_isBase_1 : decode cX9_isBase 1 = .ok (.getfield 9, 3) := by decide +kernel
theorem dX9_isBase_4 : decode cX9_isBase 4 = .ok (.bipush 7, 2) := by decide +kernel
theorem dX9_isBase_6 : decode cX9_isBase 6 = .ok (.iaload, 1) := by decide +kernel
theorem dX9_isBase_7 : decode cX9_isBase 7 = .ok (.ifCond .le 7, 3) := by decide +kernel
theorem dX9_isBase_10 : decode cX9_isBase 10 = .ok (.iconst 1, 1) := by decide +kernel
theorem dX9_isBase_11 : decode cX9_isBase 11 = .ok (.goto 4, 3) := by decide +kernel
theorem dX9_isBase_14 : decode cX9_isBase 14 = .ok (.iconst 0, 1) := by decide +kernel
theorem dX9_isBase_15 : decode cX9_isBase 15 = .ok (.ireturn, 1) := by decide +kernel
theorem dX9_isCell_0 : decode cX9_isCell 0 = .ok (.iload_n 1, 1) := by decide +kernel
theorem dX9_isCell_1 : decode cX9_isCell 1 = .ok (.i2l, 1) := by decide +kernel
theorem dX9_isCell_2 : decode cX9_isCell 2 = .ok (.lconst 0, 1) := by decide +kernel
theorem dX9_isCell_3 : decode cX9_isCell 3 = .ok (.aload_n 0, 1) := by decide +kernel
theorem dX9_isCell_4 : decode cX9_isCell 4 = .ok (.invokevirtual 87, 3) := by decide +kernel
theorem dX9_isCell_7 : decode cX9_isCell 7 = .ok (.iconst 1, 1) := by decide +kernel
theorem dX9_isCell_8 : decode cX9_isCell 8 = .ok (.isub, 1) := by decide +kernel
theorem dX9_isCell_9 : decode cX9_isCell 9 = .ok (.i2l, 1) := by decide +kernel
theorem dX9_isCell_10 : decode cX9_isCell 10 = .ok (.invokestatic 76, 3) := by decide +kernel
theorem dX9_isCell_13 : decode cX9_isCell 13 = .ok (.ireturn, 1) := by decide +kernel
theorem dX9_isDepth_0 : decode cX9_isDepth 0 = .ok (.iload_n 0, 1) := by decide +kernel
theorem dX9_isDepth_1 : decode cX9_isDepth 1 = .ok (.i2l, 1) := by decide +kernel
theorem dX9_isDepth_2 : decode cX9_isDepth 2 = .ok (.lconst 0, 1) := by decide +kernel
theorem dX9_isDepth_3 : decode cX9_isDepth 3 = .ok (.ldc2_w 90, 3) := by decide +kernel
theorem dX9_isDepth_6 : decode cX9_isDepth 6 = .ok (.invokestatic 76, 3) := by decide +kernel
theorem dX9_isDepth_9 : decode cX9_isDepth 9 = .ok (.ireturn, 1) := by decide +kernel
theorem dX9_isOp_0 : decode cX9_isOp 0 = .ok (.iload_n 1, 1) := by decide +kernel
theorem dX9_isOp_1 : decode cX9_isOp 1 = .ok (.i2l, 1) := by decide +kernel
theorem dX9_isOp_2 : decode cX9_isOp 2 = .ok (.lconst 0, 1) := by decide +kernel
theorem dX9_isOp_3 : decode cX9_isOp 3 = .ok (.aload_n 0, 1) := by decide +kernel
theorem dX9_isOp_4 : decode cX9_isOp 4 = .ok (.invokevirtual 84, 3) := by decide +kernel
theorem dX9_isOp_7 : decode cX9_isOp 7 = .ok (.iconst 1, 1) := by decide +kernel
theorem dX9_isOp_8 : decode cX9_isOp 8 = .ok (.isub, 1) := by decide +kernel
theorem dX9_isOp_9 : decode cX9_isOp 9 = .ok (.i2l, 1) := by decide +kernel
theorem dX9_isOp_10 : decode cX9_isOp 10 = .ok (.invokestatic 76, 3) := by decide +kernel
theorem dX9_isOp_13 : decode cX9_isOp 13 = .ok (.ireturn, 1) := by decide +kernel
theorem dX9_isRule_0 : decode cX9_isRule 0 = .ok (.iload_n 1, 1) := by decide +kernel
theorem dX9_isRule_1 : decode cX9_isRule 1 = .ok (.i2l, 1) := by decide +kernel
theorem dX9_isRule_2 : decode cX9_isRule 2 = .ok (.lconst 0, 1) := by decide +kernel
theorem dX9_isRule_3 : decode cX9_isRule 3 = .ok (.aload_n 0, 1) := by decide +kernel
theorem dX9_isRule_4 : decode cX9_isRule 4 = .ok (.invokevirtual 80, 3) := by decide +kernel
theorem dX9_isRule_7 : decode cX9_isRule 7 = .ok (.iconst 1, 1) := by decide +kernel
theorem dX9_isRule_8 : decode cX9_isRule 8 = .ok (.isub, 1) := by decide +kernel
theorem dX9_isRule_9 : decode cX9_isRule 9 = .ok (.i2l, 1) := by decide +kernel
theorem dX9_isRule_10 : decode cX9_isRule 10 = .ok (.invokestatic 76, 3) := by decide +kernel
theorem dX9_isRule_13 : decode cX9_isRule 13 = .ok (.ireturn, 1) := by decide +kernel
theorem dX9_isSeed_0 : decode cX9_isSeed 0 = .ok (.iload_n 0, 1) := by decide +kernel
theorem dX9_isSeed_1 : decode cX9_isSeed 1 = .ok (.i2l, 1) := by decide +kernel
theorem dX9_isSeed_2 : decode cX9_isSeed 2 = .ok (.lconst 0, 1) := by decide +kernel
theorem dX9_isSeed_3 : decode cX9_isSeed 3 = .ok (.ldc2_w 512, 3) := by decide +kernel
theorem dX9_isSeed_6 : decode cX9_isSeed 6 = .ok (.invokestatic 76, 3) := by decide +kernel
theorem dX9_isSeed_9 : decode cX9_isSeed 9 = .ok (.ireturn, 1) := by decide +kernel
theorem dX9_isSlot_0 : decode cX9_isSlot 0 = .ok (.iload_n 0, 1) := by decide +kernel
theorem dX9_isSlot_1 : decode cX9_isSlot 1 = .ok (.i2l, 1) := by decide +kernel
theorem dX9_isSlot_2 : decode cX9_isSlot 2 = .ok (.lconst 0, 1) := by decide +kernel
theorem dX9_isSlot_3 : decode cX9_isSlot 3 = .ok (.ldc2_w 90, 3) := by decide +kernel
theorem dX9_isSlot_6 : decode cX9_isSlot 6 = .ok (.invokestatic 76, 3) := by decide +kernel
theorem dX9_isSlot_9 : decode cX9_isSlot 9 = .ok (.ireturn, 1) := by decide +kernel
theorem dX9_isState_0 : decode cX9_isState 0 = .ok (.aload_n 0, 1) := by decide +kernel
theorem dX9_isState_1 : decode cX9_isState 1 = .ok (.invokevirtual 92, 3) := by decide +kernel
theorem dX9_isState_4 : decode cX9_isState 4 = .ok (.ifCond .eq 22, 3) := by decide +kernel
theorem dX9_isState_7 : decode cX9_isState 7 = .ok (.lload_n 1, 1) := by decide +kernel
theorem dX9_isState_8 : decode cX9_isState 8 = .ok (.lconst 0, 1) := by decide +kernel
theorem dX9_isState_9 : decode cX9_isState 9 = .ok (.aload_n 0, 1) := by decide +kernel
theorem dX9_isState_10 : decode cX9_isState 10 = .ok (.invokevirtual 96, 3) := by decide +kernel
theorem dX9_isState_13 : decode cX9_isState 13 = .ok (.iconst 1, 1) := by decide +kernel
theorem dX9_isState_14 : decode cX9_isState 14 = .ok (.isub, 1) := by decide +kernel
theorem dX9_isState_15 : decode cX9_isState 15 = .ok (.i2l, 1) := by decide +kernel
theorem dX9_isState_16 : decode cX9_isState 16 = .ok (.invokestatic 76, 3) := by decide +kernel
theorem dX9_isState_19 : decode cX9_isState 19 = .ok (.ifCond .eq 7, 3) := by decide +kernel
theorem dX9_isState_22 : decode cX9_isState 22 = .ok (.iconst 1, 1) := by decide +kernel
theorem dX9_isState_23 : decode cX9_isState 23 = .ok (.goto 4, 3) := by decide +kernel
theorem dX9_isState_26 : decode cX9_isState 26 = .ok (.iconst 0, 1) := by decide +kernel
theorem dX9_isState_27 : decode cX9_isState 27 = .ok (.ireturn, 1) := by decide +kernel
theorem dX9_opNumbers_0 : decode cX9_opNumbers 0 = .ok (.iload_n 0, 1) := by decide +kernel
theorem dX9_opNumbers_1 : decode cX9_opNumbers 1 = .ok (.iconst 3, 1) := by decide +kernel
theorem dX9_opNumbers_2 : decode cX9_opNumbers 2 = .ok (.if_icmp .ne 7, 3) := by decide +kernel
theorem dX9_opNumbers_5 : decode cX9_opNumbers 5 = .ok (.iconst 3, 1) := by decide +kernel
theorem dX9_opNumbers_6 : decode cX9_opNumbers 6 = .ok (.goto 4, 3) := by decide +kernel
theorem dX9_opNumbers_9 : decode cX9_opNumbers 9 = .ok (.iconst 2, 1) := by decide +kernel
theorem dX9_opNumbers_10 : decode cX9_opNumbers 10 = .ok (.ireturn, 1) := by decide +kernel
theorem dX9_opOf_0 : decode cX9_opOf 0 = .ok (.aload_n 0, 1) := by decide +kernel
theorem dX9_opOf_1 : decode cX9_opOf 1 = .ok (.getfield 9, 3) := by decide +kernel
theorem dX9_opOf_4 : decode cX9_opOf 4 = .ok (.bipush 36, 2) := by decide +kernel
theorem dX9_opOf_6 : decode cX9_opOf 6 = .ok (.iconst 4, 1) := by decide +kernel
theorem dX9_opOf_7 : decode cX9_opOf 7 = .ok (.iload_n 1, 1) := by decide +kernel
theorem dX9_opOf_8 : decode cX9_opOf 8 = .ok (.imul, 1) := by decide +kernel
theorem dX9_opOf_9 : decode cX9_opOf 9 = .ok (.iadd, 1) := by decide +kernel
theorem dX9_opOf_10 : decode cX9_opOf 10 = .ok (.iload_n 2, 1) := by decide +kernel
theorem dX9_opOf_11 : decode cX9_opOf 11 = .ok (.iadd, 1) := by decide +kernel
theorem dX9_opOf_12 : decode cX9_opOf 12 = .ok (.iaload, 1) := by decide +kernel
theorem dX9_opOf_13 : decode cX9_opOf 13 = .ok (.ireturn, 1) := by decide +kernel
theorem dX9_ops_0 : decode cX9_ops 0 = .ok (.aload_n 0, 1) := by decide +kernel
theorem dX9_ops_1 : decode cX9_ops 1 = .ok (.getfield 9, 3) := by decide +kernel
theorem dX9_ops_4 : decode cX9_ops 4 = .ok (.iconst 5, 1) := by decide +kernel
theorem dX9_ops_5 : decode cX9_ops 5 = .ok (.iaload, 1) := by decide +kernel
theorem dX9_ops_6 : decode cX9_ops 6 = .ok (.ireturn, 1) := by decide +kernel
theorem dX9_ruleNumbers_0 : decode cX9_ruleNumbers 0 = .ok (.iload_n 0, 1) := by decide +kernel
theorem dX9_ruleNumbers_1 : decode cX9_ruleNumbers 1 = .ok (.iconst 3, 1) := by decide +kernel
theorem dX9_ruleNumbers_2 : decode cX9_ruleNumbers 2 = .ok (.if_icmp .ne 7, 3) := by decide +kernel
theorem dX9_ruleNumbers_5 : decode cX9_ruleNumbers 5 = .ok (.iconst 3, 1) := by decide +kernel
theorem dX9_ruleNumbers_6 : decode cX9_ruleNumbers 6 = .ok (.goto 13, 3) := by decide +kernel
theorem dX9_ruleNumbers_9 : decode cX9_ruleNumbers 9 = .ok (.iload_n 0, 1) := by decide +kernel
theorem dX9_ruleNumbers_10 : decode cX9_ruleNumbers 10 = .ok (.iconst 5, 1) := by decide +kernel
theorem dX9_ruleNumbers_11 : decode cX9_ruleNumbers 11 = .ok (.if_icmp .ne 7, 3) := by decide +kernel
theorem dX9_ruleNumbers_14 : decode cX9_ruleNumbers 14 = .ok (.iconst 4, 1) := by decide +kernel
theorem dX9_ruleNumbers_15 : decode cX9_ruleNumbers 15 = .ok (.goto 4, 3) := by decide +kernel
theorem dX9_ruleNumbers_18 : decode cX9_ruleNumbers 18 = .ok (.iconst 2, 1) := by decide +kernel
theorem dX9_ruleNumbers_19 : decode cX9_ruleNumbers 19 = .ok (.ireturn, 1) := by decide +kernel
theorem dX9_ruleOf_0 : decode cX9_ruleOf 0 = .ok (.aload_n 0, 1) := by decide +kernel
theorem dX9_ruleOf_1 : decode cX9_ruleOf 1 = .ok (.getfield 9, 3) := by decide +kernel
theorem dX9_ruleOf_4 : decode cX9_ruleOf 4 = .ok (.bipush 11, 2) := by decide +kernel
theorem dX9_ruleOf_6 : decode cX9_ruleOf 6 = .ok (.iconst 5, 1) := by decide +kernel
theorem dX9_ruleOf_7 : decode cX9_ruleOf 7 = .ok (.iload_n 1, 1) := by decide +kernel
theorem dX9_ruleOf_8 : decode cX9_ruleOf 8 = .ok (.imul, 1) := by decide +kernel
theorem dX9_ruleOf_9 : decode cX9_ruleOf 9 = .ok (.iadd, 1) := by decide +kernel
theorem dX9_ruleOf_10 : decode cX9_ruleOf 10 = .ok (.iload_n 2, 1) := by decide +kernel
theorem dX9_ruleOf_11 : decode cX9_ruleOf 11 = .ok (.iadd, 1) := by decide +kernel
theorem dX9_ruleOf_12 : decode cX9_ruleOf 12 = .ok (.iaload, 1) := by decide +kernel
theorem dX9_ruleOf_13 : decode cX9_ruleOf 13 = .ok (.ireturn, 1) := by decide +kernel
theorem dX9_rules_0 : decode cX9_rules 0 = .ok (.aload_n 0, 1) := by decide +kernel
theorem dX9_rules_1 : decode cX9_rules 1 = .ok (.getfield 9, 3) := by decide +kernel
theorem dX9_rules_4 : decode cX9_rules 4 = .ok (.iconst 4, 1) := by decide +kernel
theorem dX9_rules_5 : decode cX9_rules 5 = .ok (.iaload, 1) := by decide +kernel
theorem dX9_rules_6 : decode cX9_rules 6 = .ok (.ireturn, 1) := by decide +kernel
theorem dX9_stateMany_0 : decode cX9_stateMany 0 = .ok (.iconst 1, 1) := by decide +kernel
theorem dX9_stateMany_1 : decode cX9_stateMany 1 = .ok (.istore_n 1, 1) := by decide +kernel
theorem dX9_stateMany_2 : decode cX9_stateMany 2 = .ok (.iconst 0, 1) := by decide +kernel
theorem dX9_stateMany_3 : decode cX9_stateMany 3 = .ok (.istore_n 2, 1) := by decide +kernel
theorem dX9_stateMany_4 : decode cX9_stateMany 4 = .ok (.iload_n 2, 1) := by decide +kernel
theorem dX9_stateMany_5 : decode cX9_stateMany 5 = .ok (.aload_n 0, 1) := by decide +kernel
theorem dX9_stateMany_6 : decode cX9_stateMany 6 = .ok (.invokevirtual 87, 3) := by decide +kernel
theorem dX9_stateMany_9 : decode cX9_stateMany 9 = .ok (.if_icmp .ge 20, 3) := by decide +kernel
theorem dX9_stateMany_12 : decode cX9_stateMany 12 = .ok (.iload_n 1, 1) := by decide +kernel
theorem dX9_stateMany_13 : decode cX9_stateMany 13 = .ok (.aload_n 0, 1) := by decide +kernel
theorem dX9_stateMany_14 : decode cX9_stateMany 14 = .ok (.getfield 9, 3) := by decide +kernel
theorem dX9_stateMany_17 : decode cX9_stateMany 17 = .ok (.iconst 0, 1) := by decide +kernel
theorem dX9_stateMany_18 : decode cX9_stateMany 18 = .ok (.iaload, 1) := by decide +kernel
theorem dX9_stateMany_19 : decode cX9_stateMany 19 = .ok (.iconst 1, 1) := by decide +kernel
theorem dX9_stateMany_20 : decode cX9_stateMany 20 = .ok (.iadd, 1) := by decide +kernel
theorem dX9_stateMany_21 : decode cX9_stateMany 21 = .ok (.imul, 1) := by decide +kernel
theorem dX9_stateMany_22 : decode cX9_stateMany 22 = .ok (.istore_n 1, 1) := by decide +kernel
theorem dX9_stateMany_23 : decode cX9_stateMany 23 = .ok (.iinc 2 1, 3) := by decide +kernel
theorem dX9_stateMany_26 : decode cX9_stateMany 26 = .ok (.goto (-22), 3) := by decide +kernel
theorem dX9_stateMany_29 : decode cX9_stateMany 29 = .ok (.iload_n 1, 1) := by decide +kernel
theorem dX9_stateMany_30 : decode cX9_stateMany 30 = .ok (.ireturn, 1) := by decide +kernel
theorem dX9_valueOf_0 : decode cX9_valueOf 0 = .ok (.iload_n 1, 1) := by decide +kernel
theorem dX9_valueOf_1 : decode cX9_valueOf 1 = .ok (.istore_n 3, 1) := by decide +kernel
theorem dX9_valueOf_2 : decode cX9_valueOf 2 = .ok (.iconst 0, 1) := by decide +kernel
theorem dX9_valueOf_3 : decode cX9_valueOf 3 = .ok (.istore 4, 2) := by decide +kernel
theorem dX9_valueOf_5 : decode cX9_valueOf 5 = .ok (.iload 4, 2) := by decide +kernel
theorem dX9_valueOf_7 : decode cX9_valueOf 7 = .ok (.iload_n 2, 1) := by decide +kernel
theorem dX9_valueOf_8 : decode cX9_valueOf 8 = .ok (.if_icmp .ge 20, 3) := by decide +kernel
theorem dX9_valueOf_11 : decode cX9_valueOf 11 = .ok (.iload_n 3, 1) := by decide +kernel
theorem dX9_valueOf_12 : decode cX9_valueOf 12 = .ok (.aload_n 0, 1) := by decide +kernel
theorem dX9_valueOf_13 : decode cX9_valueOf 13 = .ok (.getfield 9, 3) := by decide +kernel
theorem dX9_valueOf_16 : decode cX9_valueOf 16 = .ok (.iconst 0, 1) := by decide +kernel
theorem dX9_valueOf_17 : decode cX9_valueOf 17 = .ok (.iaload, 1) := by decide +kernel
theorem dX9_valueOf_18 : decode cX9_valueOf 18 = .ok (.iconst 1, 1) := by decide +kernel
theorem dX9_valueOf_19 : decode cX9_valueOf 19 = .ok (.iadd, 1) := by decide +kernel
theorem dX9_valueOf_20 : decode cX9_valueOf 20 = .ok (.idiv, 1) := by decide +kernel
theorem dX9_valueOf_21 : decode cX9_valueOf 21 = .ok (.istore_n 3, 1) := by decide +kernel
theorem dX9_valueOf_22 : decode cX9_valueOf 22 = .ok (.iinc 4 1, 3) := by decide +kernel
theorem dX9_valueOf_25 : decode cX9_valueOf 25 = .ok (.goto (-20), 3) := by decide +kernel
theorem dX9_valueOf_28 : decode cX9_valueOf 28 = .ok (.iload_n 3, 1) := by decide +kernel
theorem dX9_valueOf_29 : decode cX9_valueOf 29 = .ok (.aload_n 0, 1) := by decide +kernel
theorem dX9_valueOf_30 : decode cX9_valueOf 30 = .ok (.getfield 9, 3) := by decide +kernel
theorem dX9_valueOf_33 : decode cX9_valueOf 33 = .ok (.iconst 0, 1) := by decide +kernel
theorem dX9_valueOf_34 : decode cX9_valueOf 34 = .ok (.iaload, 1) := by decide +kernel
theorem dX9_valueOf_35 : decode cX9_valueOf 35 = .ok (.iconst 1, 1) := by decide +kernel
theorem dX9_valueOf_36 : decode cX9_valueOf 36 = .ok (.iadd, 1) := by decide +kernel
theorem dX9_valueOf_37 : decode cX9_valueOf 37 = .ok (.irem, 1) := by decide +kernel
theorem dX9_valueOf_38 : decode cX9_valueOf 38 = .ok (.ireturn, 1) := by decide +kernel
theorem dX9_withValue_0 : decode cX9_withValue 0 = .ok (.iconst 1, 1) := by decide +kernel
theorem dX9_withValue_1 : decode cX9_withValue 1 = .ok (.istore 4, 2) := by decide +kernel
theorem dX9_withValue_3 : decode cX9_withValue 3 = .ok (.iconst 0, 1) := by decide +kernel
theorem dX9_withValue_4 : decode cX9_withValue 4 = .ok (.istore 5, 2) := by decide +kernel
theorem dX9_withValue_6 : decode cX9_withValue 6 = .ok (.iload 5, 2) := by decide +kernel
theorem dX9_withValue_8 : decode cX9_withValue 8 = .ok (.iload_n 2, 1) := by decide +kernel
theorem dX9_withValue_9 : decode cX9_withValue 9 = .ok (.if_icmp .ge 22, 3) := by decide +kernel
theorem dX9_withValue_12 : decode cX9_withValue 12 = .ok (.iload 4, 2) := by decide +kernel
theorem dX9_withValue_14 : decode cX9_withValue 14 = .ok (.aload_n 0, 1) := by decide +kernel
theorem dX9_withValue_15 : decode cX9_withValue 15 = .ok (.getfield 9, 3) := by decide +kernel
theorem dX9_withValue_18 : decode cX9_withValue 18 = .ok (.iconst 0, 1) := by decide +kernel
theorem dX9_withValue_19 : decode cX9_withValue 19 = .ok (.iaload, 1) := by decide +kernel
theorem dX9_withValue_20 : decode cX9_withValue 20 = .ok (.iconst 1, 1) := by decide +kernel
theorem dX9_withValue_21 : decode cX9_withValue 21 = .ok (.iadd, 1) := by decide +kernel
theorem dX9_withValue_22 : decode cX9_withValue 22 = .ok (.imul, 1) := by decide +kernel
theorem dX9_withValue_23 : decode cX9_withValue 23 = .ok (.istore 4, 2) := by decide +kernel
theorem dX9_withValue_25 : decode cX9_withValue 25 = .ok (.iinc 5 1, 3) := by decide +kernel
theorem dX9_withValue_28 : decode cX9_withValue 28 = .ok (.goto (-22), 3) := by decide +kernel
theorem dX9_withValue_31 : decode cX9_withValue 31 = .ok (.iload_n 1, 1) := by decide +kernel
theorem dX9_withValue_32 : decode cX9_withValue 32 = .ok (.iload 4, 2) := by decide +kernel
theorem dX9_withValue_34 : decode cX9_withValue 34 = .ok (.iload_n 3, 1) := by decide +kernel
theorem dX9_withValue_35 : decode cX9_withValue 35 = .ok (.aload_n 0, 1) := by decide +kernel
theorem dX9_withValue_36 : decode cX9_withValue 36 = .ok (.iload_n 1, 1) := by decide +kernel
theorem dX9_withValue_37 : decode cX9_withValue 37 = .ok (.iload_n 2, 1) := by decide +kernel
theorem dX9_withValue_38 : decode cX9_withValue 38 = .ok (.invokevirtual 285, 3) := by decide +kernel
theorem dX9_withValue_41 : decode cX9_withValue 41 = .ok (.isub, 1) := by decide +kernel
theorem dX9_withValue_42 : decode cX9_withValue 42 = .ok (.imul, 1) := by decide +kernel
theorem dX9_withValue_43 : decode cX9_withValue 43 = .ok (.iadd, 1) := by decide +kernel
theorem dX9_withValue_44 : decode cX9_withValue 44 = .ok (.ireturn, 1) := by decide +kernel
theorem iuX9_added_X9 : ∀ w ∈ u_ws RX9 TX9 42, w ∈ W_X9_added := fun w h => List.mem_cons_of_mem _ (List.mem_append_right _ (List.mem_append_left _ (h)))
theorem iuX9_cells_X9 : ∀ w ∈ u_ws RX9 TX9 42, w ∈ W_X9_cells := fun w h => List.mem_cons_of_mem _ (List.mem_append_right _ (h))
theorem iuX9_isBase_X9 : ∀ w ∈ u_ws RX9 TX9 42, w ∈ W_X9_isBase := fun w h => List.mem_cons_of_mem _ (List.mem_append_right _ (h))
theorem iuX9_opOf_X9 : ∀ w ∈ u_ws RX9 TX9 42, w ∈ W_X9_opOf := fun w h => List.mem_cons_of_mem _ (List.mem_append_right _ (h))
theorem iuX9_ops_X9 : ∀ w ∈ u_ws RX9 TX9 42, w ∈ W_X9_ops := fun w h => List.mem_cons_of_mem _ (List.mem_append_right _ (h))
theorem iuX9_ruleOf_X9 : ∀ w ∈ u_ws RX9 TX9 42, w ∈ W_X9_ruleOf := fun w h => List.mem_cons_of_mem _ (List.mem_append_right _ (h))
theorem iuX9_rules_X9 : ∀ w ∈ u_ws RX9 TX9 42, w ∈ W_X9_rules := fun w h => List.mem_cons_of_mem _ (List.mem_append_right _ (h))
theorem iuX9_stateMany_X9 : ∀ w ∈ u_ws RX9 TX9 42, w ∈ W_X9_stateMany := fun w h => List.mem_cons_of_mem _ (List.mem_append_right _ (List.mem_append_left _ (h)))
theorem iuX9_valueOf_X9 : ∀ w ∈ u_ws RX9 TX9 42, w ∈ W_X9_valueOf := fun w h => List.mem_cons_of_mem _ (List.mem_append_right _ (h))
theorem iuX9_withValue_X9 : ∀ w ∈ u_ws RX9 TX9 42, w ∈ W_X9_withValue := fun w h => List.mem_cons_of_mem _ (List.mem_append_right _ (List.mem_append_left _ (h)))
theorem gw_X9_added_X9_in : GoodIn W_X9_added W_X9_in := fun w h => ⟨List.mem_cons_of_mem _ (List.mem_append_right _ (List.mem_append_right _ (List.mem_append_right _ (List.mem_append_left _ (h))))), (wI_X9_in w h).2⟩
theorem gc_X9_added_76_X9_in : GoodIn W_X9_added (va_wsS RX9 76 yX9_in W_X9_in) := goodIn_app (goodIn_sub (List.forall_mem_cons.mpr ⟨List.mem_cons_of_mem _ (List.mem_append_left _ (List.mem_of_getElem? (i := 5) rfl)), List.forall_mem_cons.mpr ⟨List.mem_cons_of_mem _ (List.mem_append_left _ (List.mem_of_getElem? (i := 6) rfl)), List.forall_mem_cons.mpr ⟨List.mem_cons_of_mem _ (List.mem_append_left _ (List.mem_of_getElem? (i := 3) rfl)), fun _ h => absurd h List.not_mem_nil⟩⟩⟩) (by decide +kernel)) gw_X9_added_X9_in
theorem gw_X9_added_X9_valueOf : GoodIn W_X9_added W_X9_valueOf := fun w h => ⟨List.mem_cons_of_mem _ (List.mem_append_right _ (List.mem_append_right _ (List.mem_append_left _ (h)))), (wI_X9_valueOf w h).2⟩
theorem gc_X9_added_285_X9_valueOf : GoodIn W_X9_added (wsV RX9 285 RX9 yX9_valueOf W_X9_valueOf) := goodIn_app (goodIn_sub (List.forall_mem_cons.mpr ⟨List.mem_cons_of_mem _ (List.mem_append_left _ (List.mem_of_getElem? (i := 0) rfl)), List.forall_mem_cons.mpr ⟨List.mem_cons_of_mem _ (List.mem_append_left _ (List.mem_of_getElem? (i := 1) rfl)), List.forall_mem_cons.mpr ⟨List.mem_cons_of_mem _ (List.mem_append_left _ (List.mem_of_getElem? (i := 2) rfl)), List.forall_mem_cons.mpr ⟨List.mem_cons_of_mem _ (List.mem_append_left _ (List.mem_of_getElem? (i := 3) rfl)), fun _ h => absurd h List.not_mem_nil⟩⟩⟩⟩) (by decide +kernel)) gw_X9_added_X9_valueOf
theorem gw_X9_added_X9_withValue : GoodIn W_X9_added W_X9_withValue := fun w h => ⟨List.mem_cons_of_mem _ (List.mem_append_right _ (List.mem_append_right _ (List.mem_append_right _ (List.mem_append_right _ (h))))), (wI_X9_withValue w h).2⟩
theorem gc_X9_added_295_X9_withValue : GoodIn W_X9_added (wsV RX9 295 RX9 yX9_withValue W_X9_withValue) := goodIn_app (goodIn_sub (List.forall_mem_cons.mpr ⟨List.mem_cons_of_mem _ (List.mem_append_left _ (List.mem_of_getElem? (i := 7) rfl)), List.forall_mem_cons.mpr ⟨List.mem_cons_of_mem _ (List.mem_append_left _ (List.mem_of_getElem? (i := 8) rfl)), List.forall_mem_cons.mpr ⟨List.mem_cons_of_mem _ (List.mem_append_left _ (List.mem_of_getElem? (i := 9) rfl)), List.forall_mem_cons.mpr ⟨List.mem_cons_of_mem _ (List.mem_append_left _ (List.mem_of_getElem? (i := 3) rfl)), fun _ h => absurd h List.not_mem_nil⟩⟩⟩⟩) (by decide +kernel)) gw_X9_added_X9_withValue
theorem gw_X9_allOps_X9_ops : GoodIn W_X9_allOps W_X9_ops := fun w h => ⟨List.mem_cons_of_mem _ (List.mem_append_right _ (h)), (wI_X9_ops w h).2⟩
theorem gc_X9_allOps_84_X9_ops : GoodIn W_X9_allOps (wsV RX9 84 RX9 yX9_ops W_X9_ops) := goodIn_app (goodIn_sub (List.forall_mem_cons.mpr ⟨List.mem_cons_of_mem _ (List.mem_append_left _ (List.mem_of_getElem? (i := 0) rfl)), List.forall_mem_cons.mpr ⟨List.mem_cons_of_mem _ (List.mem_append_left _ (List.mem_of_getElem? (i := 1) rfl)), List.forall_mem_cons.mpr ⟨List.mem_cons_of_mem _ (List.mem_append_left _ (List.mem_of_getElem? (i := 2) rfl)), List.forall_mem_cons.mpr ⟨List.mem_cons_of_mem _ (List.mem_append_left _ (List.mem_of_getElem? (i := 3) rfl)), fun _ h => absurd h List.not_mem_nil⟩⟩⟩⟩) (by decide +kernel)) gw_X9_allOps_X9_ops
theorem gw_X9_allRules_X9_rules : GoodIn W_X9_allRules W_X9_rules := fun w h => ⟨List.mem_cons_of_mem _ (List.mem_append_right _ (h)), (wI_X9_rules w h).2⟩
theorem gc_X9_allRules_80_X9_rules : GoodIn W_X9_allRules (wsV RX9 80 RX9 yX9_rules W_X9_rules) := goodIn_app (goodIn_sub (List.forall_mem_cons.mpr ⟨List.mem_cons_of_mem _ (List.mem_append_left _ (List.mem_of_getElem? (i := 0) rfl)), List.forall_mem_cons.mpr ⟨List.mem_cons_of_mem _ (List.mem_append_left _ (List.mem_of_getElem? (i := 1) rfl)), List.forall_mem_cons.mpr ⟨List.mem_cons_of_mem _ (List.mem_append_left _ (List.mem_of_getElem? (i := 2) rfl)), List.forall_mem_cons.mpr ⟨List.mem_cons_of_mem _ (List.mem_append_left _ (List.mem_of_getElem? (i := 3) rfl)), fun _ h => absurd h List.not_mem_nil⟩⟩⟩⟩) (by decide +kernel)) gw_X9_allRules_X9_rules
theorem gw_X9_isCell_X9_in : GoodIn W_X9_isCell W_X9_in := fun w h => ⟨List.mem_cons_of_mem _ (List.mem_append_right _ (List.mem_append_right _ (h))), (wI_X9_in w h).2⟩
theorem gc_X9_isCell_76_X9_in : GoodIn W_X9_isCell (va_wsS RX9 76 yX9_in W_X9_in) := goodIn_app (goodIn_sub (List.forall_mem_cons.mpr ⟨List.mem_cons_of_mem _ (List.mem_append_left _ (List.mem_of_getElem? (i := 4) rfl)), List.forall_mem_cons.mpr ⟨List.mem_cons_of_mem _ (List.mem_append_left _ (List.mem_of_getElem? (i := 5) rfl)), List.forall_mem_cons.mpr ⟨List.mem_cons_of_mem _ (List.mem_append_left _ (List.mem_of_getElem? (i := 3) rfl)), fun _ h => absurd h List.not_mem_nil⟩⟩⟩) (by decide +kernel)) gw_X9_isCell_X9_in
theorem gw_X9_isCell_X9_cells : GoodIn W_X9_isCell W_X9_cells := fun w h => ⟨List.mem_cons_of_mem _ (List.mem_append_right _ (List.mem_append_left _ (h))), (wI_X9_cells w h).2⟩
theorem gc_X9_isCell_87_X9_cells : GoodIn W_X9_isCell (wsV RX9 87 RX9 yX9_cells W_X9_cells) := goodIn_app (goodIn_sub (List.forall_mem_cons.mpr ⟨List.mem_cons_of_mem _ (List.mem_append_left _ (List.mem_of_getElem? (i := 0) rfl)), List.forall_mem_cons.mpr ⟨List.mem_cons_of_mem _ (List.mem_append_left _ (List.mem_of_getElem? (i := 1) rfl)), List.forall_mem_cons.mpr ⟨List.mem_cons_of_mem _ (List.mem_append_left _ (List.mem_of_getElem? (i := 2) rfl)), List.forall_mem_cons.mpr ⟨List.mem_cons_of_mem _ (List.mem_append_left _ (List.mem_of_getElem? (i := 3) rfl)), fun _ h => absurd h List.not_mem_nil⟩⟩⟩⟩) (by decide +kernel)) gw_X9_isCell_X9_cells
theorem gw_X9_isDepth_X9_in : GoodIn W_X9_isDepth W_X9_in := fun w h => ⟨List.mem_cons_of_mem _ (List.mem_append_right _ (h)), (wI_X9_in w h).2⟩
theorem gc_X9_isDepth_76_X9_in : GoodIn W_X9_isDepth (va_wsS RX9 76 yX9_in W_X9_in) := goodIn_app (goodIn_sub (List.forall_mem_cons.mpr ⟨List.mem_cons_of_mem _ (List.mem_append_left _ (List.mem_of_getElem? (i := 1) rfl)), List.forall_mem_cons.mpr ⟨List.mem_cons_of_mem _ (List.mem_append_left _ (List.mem_of_getElem? (i := 2) rfl)), List.forall_mem_cons.mpr ⟨List.mem_cons_of_mem _ (List.mem_append_left _ (List.mem_of_getElem? (i := 3) rfl)), fun _ h => absurd h List.not_mem_nil⟩⟩⟩) (by decide +kernel)) gw_X9_isDepth_X9_in
theorem gw_X9_isOp_X9_in : GoodIn W_X9_isOp W_X9_in := fun w h => ⟨List.mem_cons_of_mem _ (List.mem_append_right _ (List.mem_append_right _ (h))), (wI_X9_in w h).2⟩
theorem gc_X9_isOp_76_X9_in : GoodIn W_X9_isOp (va_wsS RX9 76 yX9_in W_X9_in) := goodIn_app (goodIn_sub (List.forall_mem_cons.mpr ⟨List.mem_cons_of_mem _ (List.mem_append_left _ (List.mem_of_getElem? (i := 4) rfl)), List.forall_mem_cons.mpr ⟨List.mem_cons_of_mem _ (List.mem_append_left _ (List.mem_of_getElem? (i := 5) rfl)), List.forall_mem_cons.mpr ⟨List.mem_cons_of_mem _ (List.mem_append_left _ (List.mem_of_getElem? (i := 3) rfl)), fun _ h => absurd h List.not_mem_nil⟩⟩⟩) (by decide +kernel)) gw_X9_isOp_X9_in
theorem gw_X9_isOp_X9_ops : GoodIn W_X9_isOp W_X9_ops := fun w h => ⟨List.mem_cons_of_mem _ (List.mem_append_right _ (List.mem_append_left _ (h))), (wI_X9_ops w h).2⟩
theorem gc_X9_isOp_84_X9_ops : GoodIn W_X9_isOp (wsV RX9 84 RX9 yX9_ops W_X9_ops) := goodIn_app (goodIn_sub (List.forall_mem_cons.mpr ⟨List.mem_cons_of_mem _ (List.mem_append_left _ (List.mem_of_getElem? (i := 0) rfl)), List.forall_mem_cons.mpr ⟨List.mem_cons_of_mem _ (List.mem_append_left _ (List.mem_of_getElem? (i := 1) rfl)), List.forall_mem_cons.mpr ⟨List.mem_cons_of_mem _ (List.mem_append_left _ (List.mem_of_getElem? (i := 2) rfl)), List.forall_mem_cons.mpr ⟨List.mem_cons_of_mem _ (List.mem_append_left _ (List.mem_of_getElem? (i := 3) rfl)), fun _ h => absurd h List.not_mem_nil⟩⟩⟩⟩) (by decide +kernel)) gw_X9_isOp_X9_ops
theorem gw_X9_isRule_X9_in : GoodIn W_X9_isRule W_X9_in := fun w h => ⟨List.mem_cons_of_mem _ (List.mem_append_right _ (List.mem_append_right _ (h))), (wI_X9_in w h).2⟩
theorem gc_X9_isRule_76_X9_in : GoodIn W_X9_isRule (va_wsS RX9 76 yX9_in W_X9_in) := goodIn_app (goodIn_sub (List.forall_mem_cons.mpr ⟨List.mem_cons_of_mem _ (List.mem_append_left _ (List.mem_of_getElem? (i := 4) rfl)), List.forall_mem_cons.mpr ⟨List.mem_cons_of_mem _ (List.mem_append_left _ (List.mem_of_getElem? (i := 5) rfl)), List.forall_mem_cons.mpr ⟨List.mem_cons_of_mem _ (List.mem_append_left _ (List.mem_of_getElem? (i := 3) rfl)), fun _ h => absurd h List.not_mem_nil⟩⟩⟩) (by decide +kernel)) gw_X9_isRule_X9_in
theorem gw_X9_isRule_X9_rules : GoodIn W_X9_isRule W_X9_rules := fun w h => ⟨List.mem_cons_of_mem _ (List.mem_append_right _ (List.mem_append_left _ (h))), (wI_X9_rules w h).2⟩
theorem gc_X9_isRule_80_X9_rules : GoodIn W_X9_isRule (wsV RX9 80 RX9 yX9_rules W_X9_rules) := goodIn_app (goodIn_sub (List.forall_mem_cons.mpr ⟨List.mem_cons_of_mem _ (List.mem_append_left _ (List.mem_of_getElem? (i := 0) rfl)), List.forall_mem_cons.mpr ⟨List.mem_cons_of_mem _ (List.mem_append_left _ (List.mem_of_getElem? (i := 1) rfl)), List.forall_mem_cons.mpr ⟨List.mem_cons_of_mem _ (List.mem_append_left _ (List.mem_of_getElem? (i := 2) rfl)), List.forall_mem_cons.mpr ⟨List.mem_cons_of_mem _ (List.mem_append_left _ (List.mem_of_getElem? (i := 3) rfl)), fun _ h => absurd h List.not_mem_nil⟩⟩⟩⟩) (by decide +kernel)) gw_X9_isRule_X9_rules
theorem gw_X9_isSeed_X9_in : GoodIn W_X9_isSeed W_X9_in := fun w h => ⟨List.mem_cons_of_mem _ (List.mem_append_right _ (h)), (wI_X9_in w h).2⟩
theorem gc_X9_isSeed_76_X9_in : GoodIn W_X9_isSeed (va_wsS RX9 76 yX9_in W_X9_in) := goodIn_app (goodIn_sub (List.forall_mem_cons.mpr ⟨List.mem_cons_of_mem _ (List.mem_append_left _ (List.mem_of_getElem? (i := 1) rfl)), List.forall_mem_cons.mpr ⟨List.mem_cons_of_mem _ (List.mem_append_left _ (List.mem_of_getElem? (i := 2) rfl)), List.forall_mem_cons.mpr ⟨List.mem_cons_of_mem _ (List.mem_append_left _ (List.mem_of_getElem? (i := 3) rfl)), fun _ h => absurd h List.not_mem_nil⟩⟩⟩) (by decide +kernel)) gw_X9_isSeed_X9_in
theorem gw_X9_isSlot_X9_in : GoodIn W_X9_isSlot W_X9_in := fun w h => ⟨List.mem_cons_of_mem _ (List.mem_append_right _ (h)), (wI_X9_in w h).2⟩
theorem gc_X9_isSlot_76_X9_in : GoodIn W_X9_isSlot (va_wsS RX9 76 yX9_in W_X9_in) := goodIn_app (goodIn_sub (List.forall_mem_cons.mpr ⟨List.mem_cons_of_mem _ (List.mem_append_left _ (List.mem_of_getElem? (i := 1) rfl)), List.forall_mem_cons.mpr ⟨List.mem_cons_of_mem _ (List.mem_append_left _ (List.mem_of_getElem? (i := 2) rfl)), List.forall_mem_cons.mpr ⟨List.mem_cons_of_mem _ (List.mem_append_left _ (List.mem_of_getElem? (i := 3) rfl)), fun _ h => absurd h List.not_mem_nil⟩⟩⟩) (by decide +kernel)) gw_X9_isSlot_X9_in
theorem gw_X9_isState_X9_in : GoodIn W_X9_isState W_X9_in := fun w h => ⟨List.mem_cons_of_mem _ (List.mem_append_right _ (List.mem_append_right _ (List.mem_append_right _ (h)))), (wI_X9_in w h).2⟩
theorem gc_X9_isState_76_X9_in : GoodIn W_X9_isState (va_wsS RX9 76 yX9_in W_X9_in) := goodIn_app (goodIn_sub (List.forall_mem_cons.mpr ⟨List.mem_cons_of_mem _ (List.mem_append_left _ (List.mem_of_getElem? (i := 7) rfl)), List.forall_mem_cons.mpr ⟨List.mem_cons_of_mem _ (List.mem_append_left _ (List.mem_of_getElem? (i := 8) rfl)), List.forall_mem_cons.mpr ⟨List.mem_cons_of_mem _ (List.mem_append_left _ (List.mem_of_getElem? (i := 3) rfl)), fun _ h => absurd h List.not_mem_nil⟩⟩⟩) (by decide +kernel)) gw_X9_isState_X9_in
theorem gw_X9_isState_X9_isBase : GoodIn W_X9_isState W_X9_isBase := fun w h => ⟨List.mem_cons_of_mem _ (List.mem_append_right _ (List.mem_append_left _ (h))), (wI_X9_isBase w h).2⟩
theorem gc_X9_isState_92_X9_isBase : GoodIn W_X9_isState (wsV RX9 92 RX9 yX9_isBase W_X9_isBase) := goodIn_app (goodIn_sub (List.forall_mem_cons.mpr ⟨List.mem_cons_of_mem _ (List.mem_append_left _ (List.mem_of_getElem? (i := 0) rfl)), List.forall_mem_cons.mpr ⟨List.mem_cons_of_mem _ (List.mem_append_left _ (List.mem_of_getElem? (i := 1) rfl)), List.forall_mem_cons.mpr ⟨List.mem_cons_of_mem _ (List.mem_append_left _ (List.mem_of_getElem? (i := 2) rfl)), List.forall_mem_cons.mpr ⟨List.mem_cons_of_mem _ (List.mem_append_left _ (List.mem_of_getElem? (i := 3) rfl)), fun _ h => absurd h List.not_mem_nil⟩⟩⟩⟩) (by decide +kernel)) gw_X9_isState_X9_isBase
theorem gw_X9_isState_X9_stateMany : GoodIn W_X9_isState W_X9_stateMany := fun w h => ⟨List.mem_cons_of_mem _ (List.mem_append_right _ (List.mem_append_right _ (List.mem_append_left _ (h)))), (wI_X9_stateMany w h).2⟩
theorem gc_X9_isState_96_X9_stateMany : GoodIn W_X9_isState (wsV RX9 96 RX9 yX9_stateMany W_X9_stateMany) := goodIn_app (goodIn_sub (List.forall_mem_cons.mpr ⟨List.mem_cons_of_mem _ (List.mem_append_left _ (List.mem_of_getElem? (i := 4) rfl)), List.forall_mem_cons.mpr ⟨List.mem_cons_of_mem _ (List.mem_append_left _ (List.mem_of_getElem? (i := 5) rfl)), List.forall_mem_cons.mpr ⟨List.mem_cons_of_mem _ (List.mem_append_left _ (List.mem_of_getElem? (i := 6) rfl)), List.forall_mem_cons.mpr ⟨List.mem_cons_of_mem _ (List.mem_append_left _ (List.mem_of_getElem? (i := 3) rfl)), fun _ h => absurd h List.not_mem_nil⟩⟩⟩⟩) (by decide +kernel)) gw_X9_isState_X9_stateMany
theorem gw_X9_stateMany_X9_cells : GoodIn W_X9_stateMany W_X9_cells := fun w h => ⟨List.mem_cons_of_mem _ (List.mem_append_right _ (List.mem_append_right _ (h))), (wI_X9_cells w h).2⟩
theorem gc_X9_stateMany_87_X9_cells : GoodIn W_X9_stateMany (wsV RX9 87 RX9 yX9_cells W_X9_cells) := goodIn_app (goodIn_sub (List.forall_mem_cons.mpr ⟨List.mem_cons_of_mem _ (List.mem_append_left _ (List.mem_of_getElem? (i := 0) rfl)), List.forall_mem_cons.mpr ⟨List.mem_cons_of_mem _ (List.mem_append_left _ (List.mem_of_getElem? (i := 1) rfl)), List.forall_mem_cons.mpr ⟨List.mem_cons_of_mem _ (List.mem_append_left _ (List.mem_of_getElem? (i := 2) rfl)), List.forall_mem_cons.mpr ⟨List.mem_cons_of_mem _ (List.mem_append_left _ (List.mem_of_getElem? (i := 3) rfl)), fun _ h => absurd h List.not_mem_nil⟩⟩⟩⟩) (by decide +kernel)) gw_X9_stateMany_X9_cells
theorem gw_X9_withValue_X9_valueOf : GoodIn W_X9_withValue W_X9_valueOf := fun w h => ⟨List.mem_cons_of_mem _ (List.mem_append_right _ (List.mem_append_right _ (h))), (wI_X9_valueOf w h).2⟩
theorem gc_X9_withValue_285_X9_valueOf : GoodIn W_X9_withValue (wsV RX9 285 RX9 yX9_valueOf W_X9_valueOf) := goodIn_app (goodIn_sub (List.forall_mem_cons.mpr ⟨List.mem_cons_of_mem _ (List.mem_append_left _ (List.mem_of_getElem? (i := 1) rfl)), List.forall_mem_cons.mpr ⟨List.mem_cons_of_mem _ (List.mem_append_left _ (List.mem_of_getElem? (i := 2) rfl)), List.forall_mem_cons.mpr ⟨List.mem_cons_of_mem _ (List.mem_append_left _ (List.mem_of_getElem? (i := 3) rfl)), List.forall_mem_cons.mpr ⟨List.mem_cons_of_mem _ (List.mem_append_left _ (List.mem_of_getElem? (i := 4) rfl)), fun _ h => absurd h List.not_mem_nil⟩⟩⟩⟩) (by decide +kernel)) gw_X9_withValue_X9_valueOf
