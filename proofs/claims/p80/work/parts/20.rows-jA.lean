theorem dJ13_bitCount_95d88_0 : decode cJ13_bitCount_95d88 0 = .ok (.lload_n 0, 1) := by decide +kernel
theorem dJ13_bitCount_95d88_1 : decode cJ13_bitCount_95d88 1 = .ok (.lload_n 0, 1) := by decide +kernel
theorem dJ13_bitCount_95d88_2 : decode cJ13_bitCount_95d88 2 = .ok (.iconst 1, 1) := by decide +kernel
theorem dJ13_bitCount_95d88_3 : decode cJ13_bitCount_95d88 3 = .ok (.lushr, 1) := by decide +kernel
theorem dJ13_bitCount_95d88_4 : decode cJ13_bitCount_95d88 4 = .ok (.ldc2_w 314, 3) := by decide +kernel
theorem dJ13_bitCount_95d88_7 : decode cJ13_bitCount_95d88 7 = .ok (.land, 1) := by decide +kernel
theorem dJ13_bitCount_95d88_8 : decode cJ13_bitCount_95d88 8 = .ok (.lsub, 1) := by decide +kernel
theorem dJ13_bitCount_95d88_9 : decode cJ13_bitCount_95d88 9 = .ok (.lstore_n 0, 1) := by decide +kernel
theorem dJ13_bitCount_95d88_10 : decode cJ13_bitCount_95d88 10 = .ok (.lload_n 0, 1) := by decide +kernel
theorem dJ13_bitCount_95d88_11 : decode cJ13_bitCount_95d88 11 = .ok (.ldc2_w 316, 3) := by decide +kernel
theorem dJ13_bitCount_95d88_14 : decode cJ13_bitCount_95d88 14 = .ok (.land, 1) := by decide +kernel
theorem dJ13_bitCount_95d88_15 : decode cJ13_bitCount_95d88 15 = .ok (.lload_n 0, 1) := by decide +kernel
theorem dJ13_bitCount_95d88_16 : decode cJ13_bitCount_95d88 16 = .ok (.iconst 2, 1) := by decide +kernel
theorem dJ13_bitCount_95d88_17 : decode cJ13_bitCount_95d88 17 = .ok (.lushr, 1) := by decide +kernel
theorem dJ13_bitCount_95d88_18 : decode cJ13_bitCount_95d88 18 = .ok (.ldc2_w 316, 3) := by decide +kernel
theorem dJ13_bitCount_95d88_21 : decode cJ13_bitCount_95d88 21 = .ok (.land, 1) := by decide +kernel
theorem dJ13_bitCount_95d88_22 : decode cJ13_bitCount_95d88 22 = .ok (.ladd, 1) := by decide +kernel
theorem dJ13_bitCount_95d88_23 : decode cJ13_bitCount_95d88 23 = .ok (.lstore_n 0, 1) := by decide +kernel
theorem dJ13_bitCount_95d88_24 : decode cJ13_bitCount_95d88 24 = .ok (.lload_n 0, 1) := by decide +kernel
theorem dJ13_bitCount_95d88_25 : decode cJ13_bitCount_95d88 25 = .ok (.lload_n 0, 1) := by decide +kernel
theorem dJ13_bitCount_95d88_26 : decode cJ13_bitCount_95d88 26 = .ok (.iconst 4, 1) := by decide +kernel
theorem dJ13_bitCount_95d88_27 : decode cJ13_bitCount_95d88 27 = .ok (.lushr, 1) := by decide +kernel
theorem dJ13_bitCount_95d88_28 : decode cJ13_bitCount_95d88 28 = .ok (.ladd, 1) := by decide +kernel
theorem dJ13_bitCount_95d88_29 : decode cJ13_bitCount_95d88 29 = .ok (.ldc2_w 318, 3) := by decide +kernel
theorem dJ13_bitCount_95d88_32 : decode cJ13_bitCount_95d88 32 = .ok (.land, 1) := by decide +kernel
theorem dJ13_bitCount_95d88_33 : decode cJ13_bitCount_95d88 33 = .ok (.lstore_n 0, 1) := by decide +kernel
theorem dJ13_bitCount_95d88_34 : decode cJ13_bitCount_95d88 34 = .ok (.lload_n 0, 1) := by decide +kernel
theorem dJ13_bitCount_95d88_35 : decode cJ13_bitCount_95d88 35 = .ok (.lload_n 0, 1) := by decide +kernel
theorem dJ13_bitCount_95d88_36 : decode cJ13_bitCount_95d88 36 = .ok (.bipush 8, 2) := by decide +kernel
theorem dJ13_bitCount_95d88_38 : decode cJ13_bitCount_95d88 38 = .ok (.lushr, 1) := by decide +kernel
theorem dJ13_bitCount_95d88_39 : decode cJ13_bitCount_95d88 39 = .ok (.ladd, 1) := by decide +kernel
theorem dJ13_bitCount_95d88_40 : decode cJ13_bitCount_95d88 40 = .ok (.lstore_n 0, 1) := by decide +kernel
theorem dJ13_bitCount_95d88_41 : decode cJ13_bitCount_95d88 41 = .ok (.lload_n 0, 1) := by decide +kernel
theorem dJ13_bitCount_95d88_42 : decode cJ13_bitCount_95d88 42 = .ok (.lload_n 0, 1) := by decide +kernel
theorem dJ13_bitCount_95d88_43 : decode cJ13_bitCount_95d88 43 = .ok (.bipush 16, 2) := by decide +kernel
theorem dJ13_bitCount_95d88_45 : decode cJ13_bitCount_95d88 45 = .ok (.lushr, 1) := by decide +kernel
theorem dJ13_bitCount_95d88_46 : decode cJ13_bitCount_95d88 46 = .ok (.ladd, 1) := by decide +kernel
theorem dJ13_bitCount_95d88_47 : decode cJ13_bitCount_95d88 47 = .ok (.lstore_n 0, 1) := by decide +kernel
theorem dJ13_bitCount_95d88_48 : decode cJ13_bitCount_95d88 48 = .ok (.lload_n 0, 1) := by decide +kernel
theorem dJ13_bitCount_95d88_49 : decode cJ13_bitCount_95d88 49 = .ok (.lload_n 0, 1) := by decide +kernel
theorem dJ13_bitCount_95d88_50 : decode cJ13_bitCount_95d88 50 = .ok (.bipush 32, 2) := by decide +kernel
theorem dJ13_bitCount_95d88_52 : decode cJ13_bitCount_95d88 52 = .ok (.lushr, 1) := by decide +kernel
theorem dJ13_bitCount_95d88_53 : decode cJ13_bitCount_95d88 53 = .ok (.ladd, 1) := by decide +kernel
theorem dJ13_bitCount_95d88_54 : decode cJ13_bitCount_95d88 54 = .ok (.lstore_n 0, 1) := by decide +kernel
theorem dJ13_bitCount_95d88_55 : decode cJ13_bitCount_95d88 55 = .ok (.lload_n 0, 1) := by decide +kernel
theorem dJ13_bitCount_95d88_56 : decode cJ13_bitCount_95d88 56 = .ok (.l2i, 1) := by decide +kernel
theorem dJ13_bitCount_95d88_57 : decode cJ13_bitCount_95d88 57 = .ok (.bipush 127, 2) := by decide +kernel
theorem dJ13_bitCount_95d88_59 : decode cJ13_bitCount_95d88 59 = .ok (.iand, 1) := by decide +kernel
theorem dJ13_bitCount_95d88_60 : decode cJ13_bitCount_95d88 60 = .ok (.ireturn, 1) := by decide +kernel
theorem dJ6_bitCount_0f7a4_0 : decode cJ6_bitCount_0f7a4 0 = .ok (.iload_n 0, 1) := by decide +kernel
theorem dJ6_bitCount_0f7a4_1 : decode cJ6_bitCount_0f7a4 1 = .ok (.iload_n 0, 1) := by decide +kernel
theorem dJ6_bitCount_0f7a4_2 : decode cJ6_bitCount_0f7a4 2 = .ok (.iconst 1, 1) := by decide +kernel
theorem dJ6_bitCount_0f7a4_3 : decode cJ6_bitCount_0f7a4 3 = .ok (.iushr, 1) := by decide +kernel
theorem dJ6_bitCount_0f7a4_4 : decode cJ6_bitCount_0f7a4 4 = .ok (.ldc_w 265, 3) := by decide +kernel
theorem dJ6_bitCount_0f7a4_7 : decode cJ6_bitCount_0f7a4 7 = .ok (.iand, 1) := by decide +kernel
theorem dJ6_bitCount_0f7a4_8 : decode cJ6_bitCount_0f7a4 8 = .ok (.isub, 1) := by decide +kernel
theorem dJ6_bitCount_0f7a4_9 : decode cJ6_bitCount_0f7a4 9 = .ok (.istore_n 0, 1) := by decide +kernel
theorem dJ6_bitCount_0f7a4_10 : decode cJ6_bitCount_0f7a4 10 = .ok (.iload_n 0, 1) := by decide +kernel
theorem dJ6_bitCount_0f7a4_11 : decode cJ6_bitCount_0f7a4 11 = .ok (.ldc_w 266, 3) := by decide +kernel
theorem dJ6_bitCount_0f7a4_14 : decode cJ6_bitCount_0f7a4 14 = .ok (.iand, 1) := by decide +kernel
theorem dJ6_bitCount_0f7a4_15 : decode cJ6_bitCount_0f7a4 15 = .ok (.iload_n 0, 1) := by decide +kernel
theorem dJ6_bitCount_0f7a4_16 : decode cJ6_bitCount_0f7a4 16 = .ok (.iconst 2, 1) := by decide +kernel
theorem dJ6_bitCount_0f7a4_17 : decode cJ6_bitCount_0f7a4 17 = .ok (.iushr, 1) := by decide +kernel
theorem dJ6_bitCount_0f7a4_18 : decode cJ6_bitCount_0f7a4 18 = .ok (.ldc_w 266, 3) := by decide +kernel
theorem dJ6_bitCount_0f7a4_21 : decode cJ6_bitCount_0f7a4 21 = .ok (.iand, 1) := by decide +kernel
theorem dJ6_bitCount_0f7a4_22 : decode cJ6_bitCount_0f7a4 22 = .ok (.iadd, 1) := by decide +kernel
theorem dJ6_bitCount_0f7a4_23 : decode cJ6_bitCount_0f7a4 23 = .ok (.istore_n 0, 1) := by decide +kernel
theorem dJ6_bitCount_0f7a4_24 : decode cJ6_bitCount_0f7a4 24 = .ok (.iload_n 0, 1) := by decide +kernel
theorem dJ6_bitCount_0f7a4_25 : decode cJ6_bitCount_0f7a4 25 = .ok (.iload_n 0, 1) := by decide +kernel
theorem dJ6_bitCount_0f7a4_26 : decode cJ6_bitCount_0f7a4 26 = .ok (.iconst 4, 1) := by decide +kernel
theorem dJ6_bitCount_0f7a4_27 : decode cJ6_bitCount_0f7a4 27 = .ok (.iushr, 1) := by decide +kernel
theorem dJ6_bitCount_0f7a4_28 : decode cJ6_bitCount_0f7a4 28 = .ok (.iadd, 1) := by decide +kernel
theorem dJ6_bitCount_0f7a4_29 : decode cJ6_bitCount_0f7a4 29 = .ok (.ldc_w 267, 3) := by decide +kernel
theorem dJ6_bitCount_0f7a4_32 : decode cJ6_bitCount_0f7a4 32 = .ok (.iand, 1) := by decide +kernel
theorem dJ6_bitCount_0f7a4_33 : decode cJ6_bitCount_0f7a4 33 = .ok (.istore_n 0, 1) := by decide +kernel
theorem dJ6_bitCount_0f7a4_34 : decode cJ6_bitCount_0f7a4 34 = .ok (.iload_n 0, 1) := by decide +kernel
theorem dJ6_bitCount_0f7a4_35 : decode cJ6_bitCount_0f7a4 35 = .ok (.iload_n 0, 1) := by decide +kernel
theorem dJ6_bitCount_0f7a4_36 : decode cJ6_bitCount_0f7a4 36 = .ok (.bipush 8, 2) := by decide +kernel
theorem dJ6_bitCount_0f7a4_38 : decode cJ6_bitCount_0f7a4 38 = .ok (.iushr, 1) := by decide +kernel
theorem dJ6_bitCount_0f7a4_39 : decode cJ6_bitCount_0f7a4 39 = .ok (.iadd, 1) := by decide +kernel
theorem dJ6_bitCount_0f7a4_40 : decode cJ6_bitCount_0f7a4 40 = .ok (.istore_n 0, 1) := by decide +kernel
theorem dJ6_bitCount_0f7a4_41 : decode cJ6_bitCount_0f7a4 41 = .ok (.iload_n 0, 1) := by decide +kernel
theorem dJ6_bitCount_0f7a4_42 : decode cJ6_bitCount_0f7a4 42 = .ok (.iload_n 0, 1) := by decide +kernel
theorem dJ6_bitCount_0f7a4_43 : decode cJ6_bitCount_0f7a4 43 = .ok (.bipush 16, 2) := by decide +kernel
theorem dJ6_bitCount_0f7a4_45 : decode cJ6_bitCount_0f7a4 45 = .ok (.iushr, 1) := by decide +kernel
theorem dJ6_bitCount_0f7a4_46 : decode cJ6_bitCount_0f7a4 46 = .ok (.iadd, 1) := by decide +kernel
theorem dJ6_bitCount_0f7a4_47 : decode cJ6_bitCount_0f7a4 47 = .ok (.istore_n 0, 1) := by decide +kernel
theorem dJ6_bitCount_0f7a4_48 : decode cJ6_bitCount_0f7a4 48 = .ok (.iload_n 0, 1) := by decide +kernel
theorem dJ6_bitCount_0f7a4_49 : decode cJ6_bitCount_0f7a4 49 = .ok (.bipush 63, 2) := by decide +kernel
theorem dJ6_bitCount_0f7a4_51 : decode cJ6_bitCount_0f7a4 51 = .ok (.iand, 1) := by decide +kernel
theorem dJ6_bitCount_0f7a4_52 : decode cJ6_bitCount_0f7a4 52 = .ok (.ireturn, 1) := by decide +kernel
theorem dX2_asTold_0 : decode cX2_asTold 0 = .ok (.aload_n 0, 1) := by decide +kernel
theorem dX2_asTold_1 : decode cX2_asTold 1 = .ok (.getfield 12, 3) := by decide +kernel
theorem dX2_asTold_4 : decode cX2_asTold 4 = .ok (.aload_n 0, 1) := by decide +kernel
theorem dX2_asTold_5 : decode cX2_asTold 5 = .ok (.getfield 49, 3) := by decide +kernel
theorem dX2_asTold_8 : decode cX2_asTold 8 = .ok (.aload_n 0, 1) := by decide +kernel
theorem dX2_asTold_9 : decode cX2_asTold 9 = .ok (.getfield 53, 3) := by decide +kernel
theorem dX2_asTold_12 : decode cX2_asTold 12 = .ok (.aload_n 0, 1) := by decide +kernel
theorem dX2_asTold_13 : decode cX2_asTold 13 = .ok (.getfield 49, 3) := by decide +kernel
theorem dX2_asTold_16 : decode cX2_asTold 16 = .ok (.getfield 57, 3) := by decide +kernel
theorem dX2_asTold_19 : decode cX2_asTold 19 = .ok (.invokevirtual 62, 3) := by decide +kernel
theorem dX2_asTold_22 : decode cX2_asTold 22 = .ok (.aload_n 0, 1) := by decide +kernel
theorem dX2_asTold_23 : decode cX2_asTold 23 = .ok (.aload_n 0, 1) := by decide +kernel
theorem dX2_asTold_24 : decode cX2_asTold 24 = .ok (.getfield 49, 3) := by decide +kernel
theorem dX2_asTold_27 : decode cX2_asTold 27 = .ok (.getfield 66, 3) := by decide +kernel
theorem dX2_asTold_30 : decode cX2_asTold 30 = .ok (.aload_n 0, 1) := by decide +kernel
theorem dX2_asTold_31 : decode cX2_asTold 31 = .ok (.getfield 49, 3) := by decide +kernel
theorem dX2_asTold_34 : decode cX2_asTold 34 = .ok (.getfield 69, 3) := by decide +kernel
theorem dX2_asTold_37 : decode cX2_asTold 37 = .ok (.invokevirtual 72, 3) := by decide +kernel
theorem dX2_asTold_40 : decode cX2_asTold 40 = .ok (.return_, 1) := by decide +kernel
theorem dX2_clashesOf_0 : decode cX2_clashesOf 0 = .ok (.iconst 0, 1) := by decide +kernel
theorem dX2_clashesOf_1 : decode cX2_clashesOf 1 = .ok (.istore_n 3, 1) := by decide +kernel
theorem dX2_clashesOf_2 : decode cX2_clashesOf 2 = .ok (.iconst 0, 1) := by decide +kernel
theorem dX2_clashesOf_3 : decode cX2_clashesOf 3 = .ok (.istore 4, 2) := by decide +kernel
theorem dX2_clashesOf_5 : decode cX2_clashesOf 5 = .ok (.iload 4, 2) := by decide +kernel
theorem dX2_clashesOf_7 : decode cX2_clashesOf 7 = .ok (.aload_n 0, 1) := by decide +kernel
theorem dX2_clashesOf_8 : decode cX2_clashesOf 8 = .ok (.getfield 53, 3) := by decide +kernel
theorem dX2_clashesOf_11 : decode cX2_clashesOf 11 = .ok (.getfield 117, 3) := by decide +kernel
theorem dX2_clashesOf_14 : decode cX2_clashesOf 14 = .ok (.if_icmp .ge 68, 3) := by decide +kernel
theorem dX2_clashesOf_17 : decode cX2_clashesOf 17 = .ok (.aload_n 0, 1) := by decide +kernel
theorem dX2_clashesOf_18 : decode cX2_clashesOf 18 = .ok (.iload_n 1, 1) := by decide +kernel
theorem dX2_clashesOf_19 : decode cX2_clashesOf 19 = .ok (.iload 4, 2) := by decide +kernel
theorem dX2_clashesOf_21 : decode cX2_clashesOf 21 = .ok (.invokevirtual 136, 3) := by decide +kernel
theorem dX2_clashesOf_24 : decode cX2_clashesOf 24 = .ok (.istore 5, 2) := by decide +kernel
theorem dX2_clashesOf_26 : decode cX2_clashesOf 26 = .ok (.aload_n 0, 1) := by decide +kernel
theorem dX2_clashesOf_27 : decode cX2_clashesOf 27 = .ok (.iload_n 2, 1) := by decide +kernel
theorem dX2_clashesOf_28 : decode cX2_clashesOf 28 = .ok (.iload 4, 2) := by decide +kernel
theorem dX2_clashesOf_30 : decode cX2_clashesOf 30 = .ok (.invokevirtual 136, 3) := by decide +kernel
theorem dX2_clashesOf_33 : decode cX2_clashesOf 33 = .ok (.istore 6, 2) := by decide +kernel
theorem dX2_clashesOf_35 : decode cX2_clashesOf 35 = .ok (.aload_n 0, 1) := by decide +kernel
theorem dX2_clashesOf_36 : decode cX2_clashesOf 36 = .ok (.iload 4, 2) := by decide +kernel
theorem dX2_clashesOf_38 : decode cX2_clashesOf 38 = .ok (.invokevirtual 140, 3) := by decide +kernel
theorem dX2_clashesOf_41 : decode cX2_clashesOf 41 = .ok (.ifCond .eq 35, 3) := by decide +kernel
theorem dX2_clashesOf_44 : decode cX2_clashesOf 44 = .ok (.iload 5, 2) := by decide +kernel
theorem dX2_clashesOf_46 : decode cX2_clashesOf 46 = .ok (.iconst (-1), 1) := by decide +kernel
theorem dX2_clashesOf_47 : decode cX2_clashesOf 47 = .ok (.if_icmp .eq 29, 3) := by decide +kernel
theorem dX2_clashesOf_50 : decode cX2_clashesOf 50 = .ok (.iload 6, 2) := by decide +kernel
theorem dX2_clashesOf_52 : decode cX2_clashesOf 52 = .ok (.iconst (-1), 1) := by decide +kernel
theorem dX2_clashesOf_53 : decode cX2_clashesOf 53 = .ok (.if_icmp .eq 23, 3) := by decide +kernel
theorem dX2_clashesOf_56 : decode cX2_clashesOf 56 = .ok (.aload_n 0, 1) := by decide +kernel
theorem dX2_clashesOf_57 : decode cX2_clashesOf 57 = .ok (.aload_n 0, 1) := by decide +kernel
theorem dX2_clashesOf_58 : decode cX2_clashesOf 58 = .ok (.iload 4, 2) := by decide +kernel
theorem dX2_clashesOf_60 : decode cX2_clashesOf 60 = .ok (.iload 5, 2) := by decide +kernel
theorem dX2_clashesOf_62 : decode cX2_clashesOf 62 = .ok (.iload 6, 2) := by decide +kernel
theorem dX2_clashesOf_64 : decode cX2_clashesOf 64 = .ok (.invokevirtual 118, 3) := by decide +kernel
theorem dX2_clashesOf_67 : decode cX2_clashesOf 67 = .ok (.invokevirtual 140, 3) := by decide +kernel
theorem dX2_clashesOf_70 : decode cX2_clashesOf 70 = .ok (.ifCond .ne 6, 3) := by decide +kernel
theorem dX2_clashesOf_73 : decode cX2_clashesOf 73 = .ok (.iinc 3 1, 3) := by decide +kernel
theorem dX2_clashesOf_76 : decode cX2_clashesOf 76 = .ok (.iinc 4 1, 3) := by decide +kernel
theorem dX2_clashesOf_79 : decode cX2_clashesOf 79 = .ok (.goto (-74), 3) := by decide +kernel
theorem dX2_clashesOf_82 : decode cX2_clashesOf 82 = .ok (.iload_n 3, 1) := by decide +kernel
theorem dX2_clashesOf_83 : decode cX2_clashesOf 83 = .ok (.ireturn, 1) := by decide +kernel
theorem dX2_commuting_0 : decode cX2_commuting 0 = .ok (.iconst 0, 1) := by decide +kernel
theorem dX2_commuting_1 : decode cX2_commuting 1 = .ok (.istore_n 3, 1) := by decide +kernel
theorem dX2_commuting_2 : decode cX2_commuting 2 = .ok (.iload_n 3, 1) := by decide +kernel
theorem dX2_commuting_3 : decode cX2_commuting 3 = .ok (.aload_n 0, 1) := by decide +kernel
theorem dX2_commuting_4 : decode cX2_commuting 4 = .ok (.getfield 53, 3) := by decide +kernel
theorem dX2_commuting_7 : decode cX2_commuting 7 = .ok (.getfield 117, 3) := by decide +kernel
theorem dX2_commuting_10 : decode cX2_commuting 10 = .ok (.if_icmp .ge 74, 3) := by decide +kernel
theorem dX2_commuting_13 : decode cX2_commuting 13 = .ok (.aload_n 0, 1) := by decide +kernel
theorem dX2_commuting_14 : decode cX2_commuting 14 = .ok (.iload_n 1, 1) := by decide +kernel
theorem dX2_commuting_15 : decode cX2_commuting 15 = .ok (.iload_n 3, 1) := by decide +kernel
theorem dX2_commuting_16 : decode cX2_commuting 16 = .ok (.invokevirtual 136, 3) := by decide +kernel
theorem dX2_commuting_19 : decode cX2_commuting 19 = .ok (.istore 4, 2) := by decide +kernel
theorem dX2_commuting_21 : decode cX2_commuting 21 = .ok (.aload_n 0, 1) := by decide +kernel
theorem dX2_commuting_22 : decode cX2_commuting 22 = .ok (.iload_n 2, 1) := by decide +kernel
theorem dX2_commuting_23 : decode cX2_commuting 23 = .ok (.iload_n 3, 1) := by decide +kernel
theorem dX2_commuting_24 : decode cX2_commuting 24 = .ok (.invokevirtual 136, 3) := by decide +kernel
theorem dX2_commuting_27 : decode cX2_commuting 27 = .ok (.istore 5, 2) := by decide +kernel
theorem dX2_commuting_29 : decode cX2_commuting 29 = .ok (.aload_n 0, 1) := by decide +kernel
theorem dX2_commuting_30 : decode cX2_commuting 30 = .ok (.iload_n 3, 1) := by decide +kernel
theorem dX2_commuting_31 : decode cX2_commuting 31 = .ok (.invokevirtual 140, 3) := by decide +kernel
theorem dX2_commuting_34 : decode cX2_commuting 34 = .ok (.ifCond .eq 44, 3) := by decide +kernel
theorem dX2_commuting_37 : decode cX2_commuting 37 = .ok (.iload 4, 2) := by decide +kernel
theorem dX2_commuting_39 : decode cX2_commuting 39 = .ok (.iconst (-1), 1) := by decide +kernel
theorem dX2_commuting_40 : decode cX2_commuting 40 = .ok (.if_icmp .eq 38, 3) := by decide +kernel
theorem dX2_commuting_43 : decode cX2_commuting 43 = .ok (.iload 5, 2) := by decide +kernel
theorem dX2_commuting_45 : decode cX2_commuting 45 = .ok (.iconst (-1), 1) := by decide +kernel
theorem dX2_commuting_46 : decode cX2_commuting 46 = .ok (.if_icmp .eq 32, 3) := by decide +kernel
theorem dX2_commuting_49 : decode cX2_commuting 49 = .ok (.aload_n 0, 1) := by decide +kernel
theorem dX2_commuting_50 : decode cX2_commuting 50 = .ok (.iload_n 2, 1) := by decide +kernel
theorem dX2_commuting_51 : decode cX2_commuting 51 = .ok (.iload 4, 2) := by decide +kernel
theorem dX2_commuting_53 : decode cX2_commuting 53 = .ok (.invokevirtual 136, 3) := by decide +kernel
theorem dX2_commuting_56 : decode cX2_commuting 56 = .ok (.istore 6, 2) := by decide +kernel
theorem dX2_commuting_58 : decode cX2_commuting 58 = .ok (.iload 6, 2) := by decide +kernel
theorem dX2_commuting_60 : decode cX2_commuting 60 = .ok (.iconst (-1), 1) := by decide +kernel
theorem dX2_commuting_61 : decode cX2_commuting 61 = .ok (.if_icmp .eq 15, 3) := by decide +kernel
theorem dX2_commuting_64 : decode cX2_commuting 64 = .ok (.iload 6, 2) := by decide +kernel
theorem dX2_commuting_66 : decode cX2_commuting 66 = .ok (.aload_n 0, 1) := by decide +kernel
theorem dX2_commuting_67 : decode cX2_commuting 67 = .ok (.iload_n 1, 1) := by decide +kernel
theorem dX2_commuting_68 : decode cX2_commuting 68 = .ok (.iload 5, 2) := by decide +kernel
theorem dX2_commuting_70 : decode cX2_commuting 70 = .ok (.invokevirtual 136, 3) := by decide +kernel
theorem dX2_commuting_73 : decode cX2_commuting 73 = .ok (.if_icmp .eq 5, 3) := by decide +kernel
theorem dX2_commuting_76 : decode cX2_commuting 76 = .ok (.iconst 0, 1) := by decide +kernel
theorem dX2_commuting_77 : decode cX2_commuting 77 = .ok (.ireturn, 1) := by decide +kernel
theorem dX2_commuting_78 : decode cX2_commuting 78 = .ok (.iinc 3 1, 3) := by decide +kernel
theorem dX2_commuting_81 : decode cX2_commuting 81 = .ok (.goto (-79), 3) := by decide +kernel
theorem dX2_commuting_84 : decode cX2_commuting 84 = .ok (.iconst 1, 1) := by decide +kernel
theorem dX2_commuting_85 : decode cX2_commuting 85 = .ok (.ireturn, 1) := by decide +kernel
theorem dX2_distance_0 : decode cX2_distance 0 = .ok (.aload_n 0, 1) := by decide +kernel
theorem dX2_distance_1 : decode cX2_distance 1 = .ok (.iload_n 1, 1) := by decide +kernel
theorem dX2_distance_2 : decode cX2_distance 2 = .ok (.invokevirtual 140, 3) := by decide +kernel
theorem dX2_distance_5 : decode cX2_distance 5 = .ok (.ifCond .ne 5, 3) := by decide +kernel
theorem dX2_distance_8 : decode cX2_distance 8 = .ok (.iconst (-1), 1) := by decide +kernel
theorem dX2_distance_9 : decode cX2_distance 9 = .ok (.ireturn, 1) := by decide +kernel
theorem dX2_distance_10 : decode cX2_distance 10 = .ok (.iconst 0, 1) := by decide +kernel
theorem dX2_distance_11 : decode cX2_distance 11 = .ok (.istore_n 3, 1) := by decide +kernel
theorem dX2_distance_12 : decode cX2_distance 12 = .ok (.iload_n 3, 1) := by decide +kernel
theorem dX2_distance_13 : decode cX2_distance 13 = .ok (.iconst 3, 1) := by decide +kernel
theorem dX2_distance_14 : decode cX2_distance 14 = .ok (.if_icmp .gt 27, 3) := by decide +kernel
theorem dX2_distance_17 : decode cX2_distance 17 = .ok (.aload_n 0, 1) := by decide +kernel
theorem dX2_distance_18 : decode cX2_distance 18 = .ok (.iload_n 1, 1) := by decide +kernel
theorem dX2_distance_19 : decode cX2_distance 19 = .ok (.iload_n 3, 1) := by decide +kernel
theorem dX2_distance_20 : decode cX2_distance 20 = .ok (.iconst 0, 1) := by decide +kernel
theorem dX2_distance_21 : decode cX2_distance 21 = .ok (.invokevirtual 149, 3) := by decide +kernel
theorem dX2_distance_24 : decode cX2_distance 24 = .ok (.iload_n 2, 1) := by decide +kernel
theorem dX2_distance_25 : decode cX2_distance 25 = .ok (.lushr, 1) := by decide +kernel
theorem dX2_distance_26 : decode cX2_distance 26 = .ok (.lconst 1, 1) := by decide +kernel
theorem dX2_distance_27 : decode cX2_distance 27 = .ok (.land, 1) := by decide +kernel
theorem dX2_distance_28 : decode cX2_distance 28 = .ok (.lconst 0, 1) := by decide +kernel
theorem dX2_distance_29 : decode cX2_distance 29 = .ok (.lcmp, 1) := by decide +kernel
theorem dX2_distance_30 : decode cX2_distance 30 = .ok (.ifCond .eq 5, 3) := by decide +kernel
theorem dX2_distance_33 : decode cX2_distance 33 = .ok (.iload_n 3, 1) := by decide +kernel
theorem dX2_distance_34 : decode cX2_distance 34 = .ok (.ireturn, 1) := by decide +kernel
theorem dX2_distance_35 : decode cX2_distance 35 = .ok (.iinc 3 1, 3) := by decide +kernel
theorem dX2_distance_38 : decode cX2_distance 38 = .ok (.goto (-26), 3) := by decide +kernel
theorem dX2_distance_41 : decode cX2_distance 41 = .ok (.iconst (-1), 1) := by decide +kernel
theorem dX2_distance_42 : decode cX2_distance 42 = .ok (.ireturn, 1) := by decide +kernel
theorem dX2_firstBroken_0 : decode cX2_firstBroken 0 = .ok (.iconst 0, 1) := by decide +kernel
theorem dX2_firstBroken_1 : decode cX2_firstBroken 1 = .ok (.istore_n 2, 1) := by decide +kernel
theorem dX2_firstBroken_2 : decode cX2_firstBroken 2 = .ok (.iload_n 2, 1) := by decide +kernel
theorem dX2_firstBroken_3 : decode cX2_firstBroken 3 = .ok (.aload_n 0, 1) := by decide +kernel
theorem dX2_firstBroken_4 : decode cX2_firstBroken 4 = .ok (.getfield 49, 3) := by decide +kernel
theorem dX2_firstBroken_7 : decode cX2_firstBroken 7 = .ok (.getfield 81, 3) := by decide +kernel
theorem dX2_firstBroken_10 : decode cX2_firstBroken 10 = .ok (.if_icmp .ge 20, 3) := by decide +kernel
theorem dX2_firstBroken_13 : decode cX2_firstBroken 13 = .ok (.aload_n 0, 1) := by decide +kernel
theorem dX2_firstBroken_14 : decode cX2_firstBroken 14 = .ok (.iload_n 2, 1) := by decide +kernel
theorem dX2_firstBroken_15 : decode cX2_firstBroken 15 = .ok (.iload_n 1, 1) := by decide +kernel
theorem dX2_firstBroken_16 : decode cX2_firstBroken 16 = .ok (.invokevirtual 124, 3) := by decide +kernel
theorem dX2_firstBroken_19 : decode cX2_firstBroken 19 = .ok (.ifCond .eq 5, 3) := by decide +kernel
theorem dX2_firstBroken_22 : decode cX2_firstBroken 22 = .ok (.iload_n 2, 1) := by decide +kernel
theorem dX2_firstBroken_23 : decode cX2_firstBroken 23 = .ok (.ireturn, 1) := by decide +kernel
theorem dX2_firstBroken_24 : decode cX2_firstBroken 24 = .ok (.iinc 2 1, 3) := by decide +kernel
theorem dX2_firstBroken_27 : decode cX2_firstBroken 27 = .ok (.goto (-25), 3) := by decide +kernel
theorem dX2_firstBroken_30 : decode cX2_firstBroken 30 = .ok (.iconst (-1), 1) := by decide +kernel
theorem dX2_firstBroken_31 : decode cX2_firstBroken 31 = .ok (.ireturn, 1) := by decide +kernel
theorem dX2_firstStep_0 : decode cX2_firstStep 0 = .ok (.aload_n 0, 1) := by decide +kernel
theorem dX2_firstStep_1 : decode cX2_firstStep 1 = .ok (.iload_n 1, 1) := by decide +kernel
theorem dX2_firstStep_2 : decode cX2_firstStep 2 = .ok (.iload_n 2, 1) := by decide +kernel
theorem dX2_firstStep_3 : decode cX2_firstStep 3 = .ok (.invokevirtual 153, 3) := by decide +kernel
theorem dX2_firstStep_6 : decode cX2_firstStep 6 = .ok (.iconst 1, 1) := by decide +kernel
theorem dX2_firstStep_7 : decode cX2_firstStep 7 = .ok (.isub, 1) := by decide +kernel
theorem dX2_firstStep_8 : decode cX2_firstStep 8 = .ok (.istore_n 3, 1) := by decide +kernel
theorem dX2_firstStep_9 : decode cX2_firstStep 9 = .ok (.iload_n 3, 1) := by decide +kernel
theorem dX2_firstStep_10 : decode cX2_firstStep 10 = .ok (.ifCond .ge 5, 3) := by decide +kernel
theorem dX2_firstStep_13 : decode cX2_firstStep 13 = .ok (.iconst (-1), 1) := by decide +kernel
theorem dX2_firstStep_14 : decode cX2_firstStep 14 = .ok (.ireturn, 1) := by decide +kernel
theorem dX2_firstStep_15 : decode cX2_firstStep 15 = .ok (.iconst 0, 1) := by decide +kernel
theorem dX2_firstStep_16 : decode cX2_firstStep 16 = .ok (.istore 4, 2) := by decide +kernel
theorem dX2_firstStep_18 : decode cX2_firstStep 18 = .ok (.iload 4, 2) := by decide +kernel
theorem dX2_firstStep_20 : decode cX2_firstStep 20 = .ok (.aload_n 0, 1) := by decide +kernel
theorem dX2_firstStep_21 : decode cX2_firstStep 21 = .ok (.getfield 49, 3) := by decide +kernel
theorem dX2_firstStep_24 : decode cX2_firstStep 24 = .ok (.getfield 133, 3) := by decide +kernel
theorem dX2_firstStep_27 : decode cX2_firstStep 27 = .ok (.if_icmp .ge 44, 3) := by decide +kernel
theorem dX2_firstStep_30 : decode cX2_firstStep 30 = .ok (.aload_n 0, 1) := by decide +kernel
theorem dX2_firstStep_31 : decode cX2_firstStep 31 = .ok (.iload 4, 2) := by decide +kernel
theorem dX2_firstStep_33 : decode cX2_firstStep 33 = .ok (.iload_n 1, 1) := by decide +kernel
theorem dX2_firstStep_34 : decode cX2_firstStep 34 = .ok (.invokevirtual 136, 3) := by decide +kernel
theorem dX2_firstStep_37 : decode cX2_firstStep 37 = .ok (.istore 5, 2) := by decide +kernel
theorem dX2_firstStep_39 : decode cX2_firstStep 39 = .ok (.iload 5, 2) := by decide +kernel
theorem dX2_firstStep_41 : decode cX2_firstStep 41 = .ok (.iconst (-1), 1) := by decide +kernel
theorem dX2_firstStep_42 : decode cX2_firstStep 42 = .ok (.if_icmp .eq 23, 3) := by decide +kernel
theorem dX2_firstStep_45 : decode cX2_firstStep 45 = .ok (.aload_n 0, 1) := by decide +kernel
theorem dX2_firstStep_46 : decode cX2_firstStep 46 = .ok (.iload 5, 2) := by decide +kernel
theorem dX2_firstStep_48 : decode cX2_firstStep 48 = .ok (.iload_n 3, 1) := by decide +kernel
theorem dX2_firstStep_49 : decode cX2_firstStep 49 = .ok (.iconst 0, 1) := by decide +kernel
theorem dX2_firstStep_50 : decode cX2_firstStep 50 = .ok (.invokevirtual 149, 3) := by decide +kernel
theorem dX2_firstStep_53 : decode cX2_firstStep 53 = .ok (.iload_n 2, 1) := by decide +kernel
theorem dX2_firstStep_54 : decode cX2_firstStep 54 = .ok (.lushr, 1) := by decide +kernel
theorem dX2_firstStep_55 : decode cX2_firstStep 55 = .ok (.lconst 1, 1) := by decide +kernel
theorem dX2_firstStep_56 : decode cX2_firstStep 56 = .ok (.land, 1) := by decide +kernel
theorem dX2_firstStep_57 : decode cX2_firstStep 57 = .ok (.lconst 0, 1) := by decide +kernel
theorem dX2_firstStep_58 : decode cX2_firstStep 58 = .ok (.lcmp, 1) := by decide +kernel
theorem dX2_firstStep_59 : decode cX2_firstStep 59 = .ok (.ifCond .eq 6, 3) := by decide +kernel
theorem dX2_firstStep_62 : decode cX2_firstStep 62 = .ok (.iload 4, 2) := by decide +kernel
theorem dX2_firstStep_64 : decode cX2_firstStep 64 = .ok (.ireturn, 1) := by decide +kernel
theorem dX2_firstStep_65 : decode cX2_firstStep 65 = .ok (.iinc 4 1, 3) := by decide +kernel
theorem dX2_firstStep_68 : decode cX2_firstStep 68 = .ok (.goto (-50), 3) := by decide +kernel
theorem dX2_firstStep_71 : decode cX2_firstStep 71 = .ok (.iconst (-1), 1) := by decide +kernel
theorem dX2_firstStep_72 : decode cX2_firstStep 72 = .ok (.ireturn, 1) := by decide +kernel
theorem dX2_isBrokenBy_0 : decode cX2_isBrokenBy 0 = .ok (.aload_n 0, 1) := by decide +kernel
theorem dX2_isBrokenBy_1 : decode cX2_isBrokenBy 1 = .ok (.getfield 18, 3) := by decide +kernel
theorem dX2_isBrokenBy_4 : decode cX2_isBrokenBy 4 = .ok (.iload_n 1, 1) := by decide +kernel
theorem dX2_isBrokenBy_5 : decode cX2_isBrokenBy 5 = .ok (.ishr, 1) := by decide +kernel
theorem dX2_isBrokenBy_6 : decode cX2_isBrokenBy 6 = .ok (.iconst 1, 1) := by decide +kernel
theorem dX2_isBrokenBy_7 : decode cX2_isBrokenBy 7 = .ok (.iand, 1) := by decide +kernel
theorem dX2_isBrokenBy_8 : decode cX2_isBrokenBy 8 = .ok (.ifCond .ne 19, 3) := by decide +kernel
theorem dX2_isBrokenBy_11 : decode cX2_isBrokenBy 11 = .ok (.aload_n 0, 1) := by decide +kernel
theorem dX2_isBrokenBy_12 : decode cX2_isBrokenBy 12 = .ok (.getfield 53, 3) := by decide +kernel
theorem dX2_isBrokenBy_15 : decode cX2_isBrokenBy 15 = .ok (.iload_n 1, 1) := by decide +kernel
theorem dX2_isBrokenBy_16 : decode cX2_isBrokenBy 16 = .ok (.iload_n 2, 1) := by decide +kernel
theorem dX2_isBrokenBy_17 : decode cX2_isBrokenBy 17 = .ok (.invokevirtual 127, 3) := by decide +kernel
theorem dX2_isBrokenBy_20 : decode cX2_isBrokenBy 20 = .ok (.ifCond .ne 7, 3) := by decide +kernel
theorem dX2_isBrokenBy_23 : decode cX2_isBrokenBy 23 = .ok (.iconst 1, 1) := by decide +kernel
theorem dX2_isBrokenBy_24 : decode cX2_isBrokenBy 24 = .ok (.goto 4, 3) := by decide +kernel
theorem dX2_isBrokenBy_27 : decode cX2_isBrokenBy 27 = .ok (.iconst 0, 1) := by decide +kernel
theorem dX2_isBrokenBy_28 : decode cX2_isBrokenBy 28 = .ok (.ireturn, 1) := by decide +kernel
theorem dX2_isValid_0 : decode cX2_isValid 0 = .ok (.aload_n 0, 1) := by decide +kernel
theorem dX2_isValid_1 : decode cX2_isValid 1 = .ok (.getfield 25, 3) := by decide +kernel
theorem dX2_isValid_4 : decode cX2_isValid 4 = .ok (.iload_n 1, 1) := by decide +kernel
theorem dX2_isValid_5 : decode cX2_isValid 5 = .ok (.lushr, 1) := by decide +kernel
theorem dX2_isValid_6 : decode cX2_isValid 6 = .ok (.lconst 1, 1) := by decide +kernel
theorem dX2_isValid_7 : decode cX2_isValid 7 = .ok (.land, 1) := by decide +kernel
theorem dX2_isValid_8 : decode cX2_isValid 8 = .ok (.lconst 0, 1) := by decide +kernel
theorem dX2_isValid_9 : decode cX2_isValid 9 = .ok (.lcmp, 1) := by decide +kernel
theorem dX2_isValid_10 : decode cX2_isValid 10 = .ok (.ifCond .eq 7, 3) := by decide +kernel
theorem dX2_isValid_13 : decode cX2_isValid 13 = .ok (.iconst 1, 1) := by decide +kernel
theorem dX2_isValid_14 : decode cX2_isValid 14 = .ok (.goto 4, 3) := by decide +kernel
theorem dX2_isValid_17 : decode cX2_isValid 17 = .ok (.iconst 0, 1) := by decide +kernel
theorem dX2_isValid_18 : decode cX2_isValid 18 = .ok (.ireturn, 1) := by decide +kernel
theorem dX2_merged_0 : decode cX2_merged 0 = .ok (.aload_n 0, 1) := by decide +kernel
theorem dX2_merged_1 : decode cX2_merged 1 = .ok (.getfield 12, 3) := by decide +kernel
theorem dX2_merged_4 : decode cX2_merged 4 = .ok (.aload_n 0, 1) := by decide +kernel
theorem dX2_merged_5 : decode cX2_merged 5 = .ok (.getfield 53, 3) := by decide +kernel
theorem dX2_merged_8 : decode cX2_merged 8 = .ok (.getfield 143, 3) := by decide +kernel
theorem dX2_merged_11 : decode cX2_merged 11 = .ok (.iload_n 1, 1) := by decide +kernel
theorem dX2_merged_12 : decode cX2_merged 12 = .ok (.iaload, 1) := by decide +kernel
theorem dX2_merged_13 : decode cX2_merged 13 = .ok (.aload_n 0, 1) := by decide +kernel
theorem dX2_merged_14 : decode cX2_merged 14 = .ok (.getfield 53, 3) := by decide +kernel
theorem dX2_merged_17 : decode cX2_merged 17 = .ok (.getfield 143, 3) := by decide +kernel
theorem dX2_merged_20 : decode cX2_merged 20 = .ok (.iload_n 2, 1) := by decide +kernel
theorem dX2_merged_21 : decode cX2_merged 21 = .ok (.iaload, 1) := by decide +kernel
theorem dX2_merged_22 : decode cX2_merged 22 = .ok (.aload_n 0, 1) := by decide +kernel
theorem dX2_merged_23 : decode cX2_merged 23 = .ok (.getfield 53, 3) := by decide +kernel
theorem dX2_merged_26 : decode cX2_merged 26 = .ok (.getfield 143, 3) := by decide +kernel
theorem dX2_merged_29 : decode cX2_merged 29 = .ok (.iload_n 3, 1) := by decide +kernel
theorem dX2_merged_30 : decode cX2_merged 30 = .ok (.iaload, 1) := by decide +kernel
theorem dX2_merged_31 : decode cX2_merged 31 = .ok (.invokevirtual 146, 3) := by decide +kernel
theorem dX2_merged_34 : decode cX2_merged 34 = .ok (.ireturn, 1) := by decide +kernel
theorem dX2_openOps_0 : decode cX2_openOps 0 = .ok (.iconst 0, 1) := by decide +kernel
theorem dX2_openOps_1 : decode cX2_openOps 1 = .ok (.istore_n 2, 1) := by decide +kernel
theorem dX2_openOps_2 : decode cX2_openOps 2 = .ok (.iconst 0, 1) := by decide +kernel
theorem dX2_openOps_3 : decode cX2_openOps 3 = .ok (.istore_n 3, 1) := by decide +kernel
theorem dX2_openOps_4 : decode cX2_openOps 4 = .ok (.iload_n 3, 1) := by decide +kernel
theorem dX2_openOps_5 : decode cX2_openOps 5 = .ok (.aload_n 0, 1) := by decide +kernel
theorem dX2_openOps_6 : decode cX2_openOps 6 = .ok (.getfield 49, 3) := by decide +kernel
theorem dX2_openOps_9 : decode cX2_openOps 9 = .ok (.getfield 133, 3) := by decide +kernel
theorem dX2_openOps_12 : decode cX2_openOps 12 = .ok (.if_icmp .ge 25, 3) := by decide +kernel
theorem dX2_openOps_15 : decode cX2_openOps 15 = .ok (.aload_n 0, 1) := by decide +kernel
theorem dX2_openOps_16 : decode cX2_openOps 16 = .ok (.iload_n 3, 1) := by decide +kernel
theorem dX2_openOps_17 : decode cX2_openOps 17 = .ok (.iload_n 1, 1) := by decide +kernel
theorem dX2_openOps_18 : decode cX2_openOps 18 = .ok (.invokevirtual 136, 3) := by decide +kernel
theorem dX2_openOps_21 : decode cX2_openOps 21 = .ok (.iconst (-1), 1) := by decide +kernel
theorem dX2_openOps_22 : decode cX2_openOps 22 = .ok (.if_icmp .eq 9, 3) := by decide +kernel
theorem dX2_openOps_25 : decode cX2_openOps 25 = .ok (.iload_n 2, 1) := by decide +kernel
theorem dX2_openOps_26 : decode cX2_openOps 26 = .ok (.iconst 1, 1) := by decide +kernel
theorem dX2_openOps_27 : decode cX2_openOps 27 = .ok (.iload_n 3, 1) := by decide +kernel
theorem dX2_openOps_28 : decode cX2_openOps 28 = .ok (.ishl, 1) := by decide +kernel
theorem dX2_openOps_29 : decode cX2_openOps 29 = .ok (.ior, 1) := by decide +kernel
theorem dX2_openOps_30 : decode cX2_openOps 30 = .ok (.istore_n 2, 1) := by decide +kernel
theorem dX2_openOps_31 : decode cX2_openOps 31 = .ok (.iinc 3 1, 3) := by decide +kernel
theorem dX2_openOps_34 : decode cX2_openOps 34 = .ok (.goto (-30), 3) := by decide +kernel
theorem dX2_openOps_37 : decode cX2_openOps 37 = .ok (.iload_n 2, 1) := by decide +kernel
theorem dX2_openOps_38 : decode cX2_openOps 38 = .ok (.ireturn, 1) := by decide +kernel
theorem dX2_outcome_0 : decode cX2_outcome 0 = .ok (.aload_n 0, 1) := by decide +kernel
theorem dX2_outcome_1 : decode cX2_outcome 1 = .ok (.getfield 53, 3) := by decide +kernel
theorem dX2_outcome_4 : decode cX2_outcome 4 = .ok (.getfield 130, 3) := by decide +kernel
theorem dX2_outcome_7 : decode cX2_outcome 7 = .ok (.iload_n 1, 1) := by decide +kernel
theorem dX2_outcome_8 : decode cX2_outcome 8 = .ok (.bipush 64, 2) := by decide +kernel
theorem dX2_outcome_10 : decode cX2_outcome 10 = .ok (.imul, 1) := by decide +kernel
theorem dX2_outcome_11 : decode cX2_outcome 11 = .ok (.iload_n 2, 1) := by decide +kernel
theorem dX2_outcome_12 : decode cX2_outcome 12 = .ok (.iadd, 1) := by decide +kernel
theorem dX2_outcome_13 : decode cX2_outcome 13 = .ok (.iaload, 1) := by decide +kernel
theorem dX2_outcome_14 : decode cX2_outcome 14 = .ok (.istore_n 3, 1) := by decide +kernel
theorem dX2_outcome_15 : decode cX2_outcome 15 = .ok (.iload_n 3, 1) := by decide +kernel
theorem dX2_outcome_16 : decode cX2_outcome 16 = .ok (.iconst (-1), 1) := by decide +kernel
theorem dX2_outcome_17 : decode cX2_outcome 17 = .ok (.if_icmp .eq 20, 3) := by decide +kernel
theorem dX2_outcome_20 : decode cX2_outcome 20 = .ok (.aload_n 0, 1) := by decide +kernel
theorem dX2_outcome_21 : decode cX2_outcome 21 = .ok (.getfield 25, 3) := by decide +kernel
theorem dX2_outcome_24 : decode cX2_outcome 24 = .ok (.iload_n 3, 1) := by decide +kernel
theorem dX2_outcome_25 : decode cX2_outcome 25 = .ok (.lushr, 1) := by decide +kernel
theorem dX2_outcome_26 : decode cX2_outcome 26 = .ok (.lconst 1, 1) := by decide +kernel
theorem dX2_outcome_27 : decode cX2_outcome 27 = .ok (.land, 1) := by decide +kernel
theorem dX2_outcome_28 : decode cX2_outcome 28 = .ok (.lconst 0, 1) := by decide +kernel
theorem dX2_outcome_29 : decode cX2_outcome 29 = .ok (.lcmp, 1) := by decide +kernel
theorem dX2_outcome_30 : decode cX2_outcome 30 = .ok (.ifCond .eq 7, 3) := by decide +kernel
theorem dX2_outcome_33 : decode cX2_outcome 33 = .ok (.iload_n 3, 1) := by decide +kernel
theorem dX2_outcome_34 : decode cX2_outcome 34 = .ok (.goto 4, 3) := by decide +kernel
theorem dX2_outcome_37 : decode cX2_outcome 37 = .ok (.iconst (-1), 1) := by decide +kernel
theorem dX2_outcome_38 : decode cX2_outcome 38 = .ok (.ireturn, 1) := by decide +kernel
theorem dX2_spread_0 : decode cX2_spread 0 = .ok (.lconst 1, 1) := by decide +kernel
theorem dX2_spread_1 : decode cX2_spread 1 = .ok (.iload_n 1, 1) := by decide +kernel
theorem dX2_spread_2 : decode cX2_spread 2 = .ok (.lshl, 1) := by decide +kernel
theorem dX2_spread_3 : decode cX2_spread 3 = .ok (.lstore 4, 2) := by decide +kernel
theorem dX2_spread_5 : decode cX2_spread 5 = .ok (.iconst 0, 1) := by decide +kernel
theorem dX2_spread_6 : decode cX2_spread 6 = .ok (.istore 6, 2) := by decide +kernel
theorem dX2_spread_8 : decode cX2_spread 8 = .ok (.iconst 1, 1) := by decide +kernel
theorem dX2_spread_9 : decode cX2_spread 9 = .ok (.istore 7, 2) := by decide +kernel
theorem dX2_spread_11 : decode cX2_spread 11 = .ok (.aload_n 0, 1) := by decide +kernel
theorem dX2_spread_12 : decode cX2_spread 12 = .ok (.getfield 29, 3) := by decide +kernel
theorem dX2_spread_15 : decode cX2_spread 15 = .ok (.iconst 0, 1) := by decide +kernel
theorem dX2_spread_16 : decode cX2_spread 16 = .ok (.iload_n 1, 1) := by decide +kernel
theorem dX2_spread_17 : decode cX2_spread 17 = .ok (.iastore, 1) := by decide +kernel
theorem dX2_spread_18 : decode cX2_spread 18 = .ok (.iconst 0, 1) := by decide +kernel
theorem dX2_spread_19 : decode cX2_spread 19 = .ok (.istore 8, 2) := by decide +kernel
theorem dX2_spread_21 : decode cX2_spread 21 = .ok (.iload 8, 2) := by decide +kernel
theorem dX2_spread_23 : decode cX2_spread 23 = .ok (.iload_n 2, 1) := by decide +kernel
theorem dX2_spread_24 : decode cX2_spread 24 = .ok (.if_icmp .ge 121, 3) := by decide +kernel
theorem dX2_spread_27 : decode cX2_spread 27 = .ok (.iload 7, 2) := by decide +kernel
theorem dX2_spread_29 : decode cX2_spread 29 = .ok (.istore 9, 2) := by decide +kernel
theorem dX2_spread_31 : decode cX2_spread 31 = .ok (.iload 6, 2) := by decide +kernel
theorem dX2_spread_33 : decode cX2_spread 33 = .ok (.iload 9, 2) := by decide +kernel
theorem dX2_spread_35 : decode cX2_spread 35 = .ok (.if_icmp .ge 104, 3) := by decide +kernel
theorem dX2_spread_38 : decode cX2_spread 38 = .ok (.iconst 0, 1) := by decide +kernel
theorem dX2_spread_39 : decode cX2_spread 39 = .ok (.istore 10, 2) := by decide +kernel
theorem dX2_spread_41 : decode cX2_spread 41 = .ok (.iload 10, 2) := by decide +kernel
theorem dX2_spread_43 : decode cX2_spread 43 = .ok (.aload_n 0, 1) := by decide +kernel
theorem dX2_spread_44 : decode cX2_spread 44 = .ok (.getfield 49, 3) := by decide +kernel
theorem dX2_spread_47 : decode cX2_spread 47 = .ok (.getfield 133, 3) := by decide +kernel
theorem dX2_spread_50 : decode cX2_spread 50 = .ok (.if_icmp .ge 83, 3) := by decide +kernel
theorem dX2_spread_53 : decode cX2_spread 53 = .ok (.iload_n 3, 1) := by decide +kernel
theorem dX2_spread_54 : decode cX2_spread 54 = .ok (.iload 10, 2) := by decide +kernel
theorem dX2_spread_56 : decode cX2_spread 56 = .ok (.ishr, 1) := by decide +kernel
theorem dX2_spread_57 : decode cX2_spread 57 = .ok (.iconst 1, 1) := by decide +kernel
theorem dX2_spread_58 : decode cX2_spread 58 = .ok (.iand, 1) := by decide +kernel
theorem dX2_spread_59 : decode cX2_spread 59 = .ok (.ifCond .eq 7, 3) := by decide +kernel
theorem dX2_spread_62 : decode cX2_spread 62 = .ok (.iconst (-1), 1) := by decide +kernel
theorem dX2_spread_63 : decode cX2_spread 63 = .ok (.goto 16, 3) := by decide +kernel
theorem dX2_spread_66 : decode cX2_spread 66 = .ok (.aload_n 0, 1) := by decide +kernel
theorem dX2_spread_67 : decode cX2_spread 67 = .ok (.iload 10, 2) := by decide +kernel
theorem dX2_spread_69 : decode cX2_spread 69 = .ok (.aload_n 0, 1) := by decide +kernel
theorem dX2_spread_70 : decode cX2_spread 70 = .ok (.getfield 29, 3) := by decide +kernel
theorem dX2_spread_73 : decode cX2_spread 73 = .ok (.iload 6, 2) := by decide +kernel
theorem dX2_spread_75 : decode cX2_spread 75 = .ok (.iaload, 1) := by decide +kernel
theorem dX2_spread_76 : decode cX2_spread 76 = .ok (.invokevirtual 136, 3) := by decide +kernel
theorem dX2_spread_79 : decode cX2_spread 79 = .ok (.istore 11, 2) := by decide +kernel
theorem dX2_spread_81 : decode cX2_spread 81 = .ok (.iload 11, 2) := by decide +kernel
theorem dX2_spread_83 : decode cX2_spread 83 = .ok (.iconst (-1), 1) := by decide +kernel
theorem dX2_spread_84 : decode cX2_spread 84 = .ok (.if_icmp .eq 43, 3) := by decide +kernel
theorem dX2_spread_87 : decode cX2_spread 87 = .ok (.lload 4, 2) := by decide +kernel
theorem dX2_spread_89 : decode cX2_spread 89 = .ok (.iload 11, 2) := by decide +kernel
theorem dX2_spread_91 : decode cX2_spread 91 = .ok (.lushr, 1) := by decide +kernel
theorem dX2_spread_92 : decode cX2_spread 92 = .ok (.lconst 1, 1) := by decide +kernel
theorem dX2_spread_93 : decode cX2_spread 93 = .ok (.land, 1) := by decide +kernel
theorem dX2_spread_94 : decode cX2_spread 94 = .ok (.lconst 0, 1) := by decide +kernel
theorem dX2_spread_95 : decode cX2_spread 95 = .ok (.lcmp, 1) := by decide +kernel
theorem dX2_spread_96 : decode cX2_spread 96 = .ok (.ifCond .ne 31, 3) := by decide +kernel
theorem dX2_spread_99 : decode cX2_spread 99 = .ok (.iload 7, 2) := by decide +kernel
theorem dX2_spread_101 : decode cX2_spread 101 = .ok (.bipush 64, 2) := by decide +kernel
theorem dX2_spread_103 : decode cX2_spread 103 = .ok (.if_icmp .ge 24, 3) := by decide +kernel
theorem dX2_spread_106 : decode cX2_spread 106 = .ok (.lload 4, 2) := by decide +kernel
theorem dX2_spread_108 : decode cX2_spread 108 = .ok (.lconst 1, 1) := by decide +kernel
theorem dX2_spread_109 : decode cX2_spread 109 = .ok (.iload 11, 2) := by decide +kernel
theorem dX2_spread_111 : decode cX2_spread 111 = .ok (.lshl, 1) := by decide +kernel
theorem dX2_spread_112 : decode cX2_spread 112 = .ok (.lor, 1) := by decide +kernel
theorem dX2_spread_113 : decode cX2_spread 113 = .ok (.lstore 4, 2) := by decide +kernel
theorem dX2_spread_115 : decode cX2_spread 115 = .ok (.aload_n 0, 1) := by decide +kernel
theorem dX2_spread_116 : decode cX2_spread 116 = .ok (.getfield 29, 3) := by decide +kernel
theorem dX2_spread_119 : decode cX2_spread 119 = .ok (.iload 7, 2) := by decide +kernel
theorem dX2_spread_121 : decode cX2_spread 121 = .ok (.iload 11, 2) := by decide +kernel
theorem dX2_spread_123 : decode cX2_spread 123 = .ok (.iastore, 1) := by decide +kernel
theorem dX2_spread_124 : decode cX2_spread 124 = .ok (.iinc 7 1, 3) := by decide +kernel
theorem dX2_spread_127 : decode cX2_spread 127 = .ok (.iinc 10 1, 3) := by decide +kernel
theorem dX2_spread_130 : decode cX2_spread 130 = .ok (.goto (-89), 3) := by decide +kernel
theorem dX2_spread_133 : decode cX2_spread 133 = .ok (.iinc 6 1, 3) := by decide +kernel
theorem dX2_spread_136 : decode cX2_spread 136 = .ok (.goto (-105), 3) := by decide +kernel
theorem dX2_spread_139 : decode cX2_spread 139 = .ok (.iinc 8 1, 3) := by decide +kernel
theorem dX2_spread_142 : decode cX2_spread 142 = .ok (.goto (-121), 3) := by decide +kernel
theorem dX2_spread_145 : decode cX2_spread 145 = .ok (.lload 4, 2) := by decide +kernel
theorem dX2_spread_147 : decode cX2_spread 147 = .ok (.lreturn, 1) := by decide +kernel
theorem dX2_suppose_0 : decode cX2_suppose 0 = .ok (.aload_n 0, 1) := by decide +kernel
theorem dX2_suppose_1 : decode cX2_suppose 1 = .ok (.iload_n 1, 1) := by decide +kernel
theorem dX2_suppose_2 : decode cX2_suppose 2 = .ok (.putfield 18, 3) := by decide +kernel
theorem dX2_suppose_5 : decode cX2_suppose 5 = .ok (.aload_n 0, 1) := by decide +kernel
theorem dX2_suppose_6 : decode cX2_suppose 6 = .ok (.iload_n 2, 1) := by decide +kernel
theorem dX2_suppose_7 : decode cX2_suppose 7 = .ok (.putfield 22, 3) := by decide +kernel
theorem dX2_suppose_10 : decode cX2_suppose 10 = .ok (.aload_n 0, 1) := by decide +kernel
theorem dX2_suppose_11 : decode cX2_suppose 11 = .ok (.getfield 53, 3) := by decide +kernel
theorem dX2_suppose_14 : decode cX2_suppose 14 = .ok (.getfield 76, 3) := by decide +kernel
theorem dX2_suppose_17 : decode cX2_suppose 17 = .ok (.lstore_n 3, 1) := by decide +kernel
theorem dX2_suppose_18 : decode cX2_suppose 18 = .ok (.iconst 0, 1) := by decide +kernel
theorem dX2_suppose_19 : decode cX2_suppose 19 = .ok (.istore 5, 2) := by decide +kernel
theorem dX2_suppose_21 : decode cX2_suppose 21 = .ok (.iload 5, 2) := by decide +kernel
theorem dX2_suppose_23 : decode cX2_suppose 23 = .ok (.aload_n 0, 1) := by decide +kernel
theorem dX2_suppose_24 : decode cX2_suppose 24 = .ok (.getfield 49, 3) := by decide +kernel
theorem dX2_suppose_27 : decode cX2_suppose 27 = .ok (.getfield 81, 3) := by decide +kernel
theorem dX2_suppose_30 : decode cX2_suppose 30 = .ok (.if_icmp .ge 31, 3) := by decide +kernel
theorem dX2_suppose_33 : decode cX2_suppose 33 = .ok (.iload_n 1, 1) := by decide +kernel
theorem dX2_suppose_34 : decode cX2_suppose 34 = .ok (.iload 5, 2) := by decide +kernel
theorem dX2_suppose_36 : decode cX2_suppose 36 = .ok (.ishr, 1) := by decide +kernel
theorem dX2_suppose_37 : decode cX2_suppose 37 = .ok (.iconst 1, 1) := by decide +kernel
theorem dX2_suppose_38 : decode cX2_suppose 38 = .ok (.iand, 1) := by decide +kernel
theorem dX2_suppose_39 : decode cX2_suppose 39 = .ok (.ifCond .ne 16, 3) := by decide +kernel
theorem dX2_suppose_42 : decode cX2_suppose 42 = .ok (.lload_n 3, 1) := by decide +kernel
theorem dX2_suppose_43 : decode cX2_suppose 43 = .ok (.aload_n 0, 1) := by decide +kernel
theorem dX2_suppose_44 : decode cX2_suppose 44 = .ok (.getfield 53, 3) := by decide +kernel
theorem dX2_suppose_47 : decode cX2_suppose 47 = .ok (.getfield 84, 3) := by decide +kernel
theorem dX2_suppose_50 : decode cX2_suppose 50 = .ok (.iload 5, 2) := by decide +kernel
theorem dX2_suppose_52 : decode cX2_suppose 52 = .ok (.laload, 1) := by decide +kernel
theorem dX2_suppose_53 : decode cX2_suppose 53 = .ok (.land, 1) := by decide +kernel
theorem dX2_suppose_54 : decode cX2_suppose 54 = .ok (.lstore_n 3, 1) := by decide +kernel
theorem dX2_suppose_55 : decode cX2_suppose 55 = .ok (.iinc 5 1, 3) := by decide +kernel
theorem dX2_suppose_58 : decode cX2_suppose 58 = .ok (.goto (-37), 3) := by decide +kernel
theorem dX2_suppose_61 : decode cX2_suppose 61 = .ok (.aload_n 0, 1) := by decide +kernel
theorem dX2_suppose_62 : decode cX2_suppose 62 = .ok (.lload_n 3, 1) := by decide +kernel
theorem dX2_suppose_63 : decode cX2_suppose 63 = .ok (.putfield 25, 3) := by decide +kernel
theorem dX2_suppose_66 : decode cX2_suppose 66 = .ok (.return_, 1) := by decide +kernel
theorem dX2_worksFrom_0 : decode cX2_worksFrom 0 = .ok (.iconst 0, 1) := by decide +kernel
theorem dX2_worksFrom_1 : decode cX2_worksFrom 1 = .ok (.istore_n 2, 1) := by decide +kernel
theorem dX2_worksFrom_2 : decode cX2_worksFrom 2 = .ok (.iconst 0, 1) := by decide +kernel
theorem dX2_worksFrom_3 : decode cX2_worksFrom 3 = .ok (.istore_n 3, 1) := by decide +kernel
theorem dX2_worksFrom_4 : decode cX2_worksFrom 4 = .ok (.iload_n 3, 1) := by decide +kernel
theorem dX2_worksFrom_5 : decode cX2_worksFrom 5 = .ok (.aload_n 0, 1) := by decide +kernel
theorem dX2_worksFrom_6 : decode cX2_worksFrom 6 = .ok (.getfield 53, 3) := by decide +kernel
theorem dX2_worksFrom_9 : decode cX2_worksFrom 9 = .ok (.getfield 117, 3) := by decide +kernel
theorem dX2_worksFrom_12 : decode cX2_worksFrom 12 = .ok (.if_icmp .ge 30, 3) := by decide +kernel
theorem dX2_worksFrom_15 : decode cX2_worksFrom 15 = .ok (.aload_n 0, 1) := by decide +kernel
theorem dX2_worksFrom_16 : decode cX2_worksFrom 16 = .ok (.iload_n 3, 1) := by decide +kernel
theorem dX2_worksFrom_17 : decode cX2_worksFrom 17 = .ok (.invokevirtual 140, 3) := by decide +kernel
theorem dX2_worksFrom_20 : decode cX2_worksFrom 20 = .ok (.ifCond .eq 16, 3) := by decide +kernel
theorem dX2_worksFrom_23 : decode cX2_worksFrom 23 = .ok (.aload_n 0, 1) := by decide +kernel
theorem dX2_worksFrom_24 : decode cX2_worksFrom 24 = .ok (.iload_n 1, 1) := by decide +kernel
theorem dX2_worksFrom_25 : decode cX2_worksFrom 25 = .ok (.iload_n 3, 1) := by decide +kernel
theorem dX2_worksFrom_26 : decode cX2_worksFrom 26 = .ok (.invokevirtual 136, 3) := by decide +kernel
theorem dX2_worksFrom_29 : decode cX2_worksFrom 29 = .ok (.iconst (-1), 1) := by decide +kernel
theorem dX2_worksFrom_30 : decode cX2_worksFrom 30 = .ok (.if_icmp .eq 6, 3) := by decide +kernel
theorem dX2_worksFrom_33 : decode cX2_worksFrom 33 = .ok (.iinc 2 1, 3) := by decide +kernel
theorem dX2_worksFrom_36 : decode cX2_worksFrom 36 = .ok (.iinc 3 1, 3) := by decide +kernel
theorem dX2_worksFrom_39 : decode cX2_worksFrom 39 = .ok (.goto (-35), 3) := by decide +kernel
theorem dX2_worksFrom_42 : decode cX2_worksFrom 42 = .ok (.iload_n 2, 1) := by decide +kernel
theorem dX2_worksFrom_43 : decode cX2_worksFrom 43 = .ok (.ireturn, 1) := by decide +kernel
theorem dX3_fill_0 : decode cX3_fill 0 = .ok (.iconst 0, 1) := by decide +kernel
theorem dX3_fill_1 : decode cX3_fill 1 = .ok (.istore 4, 2) := by decide +kernel
theorem dX3_fill_3 : decode cX3_fill 3 = .ok (.iload 4, 2) := by decide +kernel
theorem dX3_fill_5 : decode cX3_fill 5 = .ok (.aload_n 1, 1) := by decide +kernel
theorem dX3_fill_6 : decode cX3_fill 6 = .ok (.getfield 15, 3) := by decide +kernel
theorem dX3_fill_9 : decode cX3_fill 9 = .ok (.if_icmp .ge 30, 3) := by decide +kernel
theorem dX3_fill_12 : decode cX3_fill 12 = .ok (.iload 4, 2) := by decide +kernel
theorem dX3_fill_14 : decode cX3_fill 14 = .ok (.iconst 3, 1) := by decide +kernel
theorem dX3_fill_15 : decode cX3_fill 15 = .ok (.if_icmp .ge 24, 3) := by decide +kernel
theorem dX3_fill_18 : decode cX3_fill 18 = .ok (.aload_n 0, 1) := by decide +kernel
theorem dX3_fill_19 : decode cX3_fill 19 = .ok (.aload_n 2, 1) := by decide +kernel
theorem dX3_fill_20 : decode cX3_fill 20 = .ok (.iload 4, 2) := by decide +kernel
theorem dX3_fill_22 : decode cX3_fill 22 = .ok (.aload_n 1, 1) := by decide +kernel
theorem dX3_fill_23 : decode cX3_fill 23 = .ok (.getfield 21, 3) := by decide +kernel
theorem dX3_fill_26 : decode cX3_fill 26 = .ok (.iload 4, 2) := by decide +kernel
theorem dX3_fill_28 : decode cX3_fill 28 = .ok (.iaload, 1) := by decide +kernel
theorem dX3_fill_29 : decode cX3_fill 29 = .ok (.iload_n 3, 1) := by decide +kernel
theorem dX3_fill_30 : decode cX3_fill 30 = .ok (.invokevirtual 24, 3) := by decide +kernel
theorem dX3_fill_33 : decode cX3_fill 33 = .ok (.iinc 4 1, 3) := by decide +kernel
theorem dX3_fill_36 : decode cX3_fill 36 = .ok (.goto (-33), 3) := by decide +kernel
theorem dX3_fill_39 : decode cX3_fill 39 = .ok (.return_, 1) := by decide +kernel
theorem dX3_fillCell_0 : decode cX3_fillCell 0 = .ok (.iload_n 2, 1) := by decide +kernel
theorem dX3_fillCell_1 : decode cX3_fillCell 1 = .ok (.ifCond .lt 8, 3) := by decide +kernel
theorem dX3_fillCell_4 : decode cX3_fillCell 4 = .ok (.iload_n 2, 1) := by decide +kernel
theorem dX3_fillCell_5 : decode cX3_fillCell 5 = .ok (.iconst 3, 1) := by decide +kernel
theorem dX3_fillCell_6 : decode cX3_fillCell 6 = .ok (.if_icmp .lt 4, 3) := by decide +kernel
theorem dX3_fillCell_9 : decode cX3_fillCell 9 = .ok (.return_, 1) := by decide +kernel
theorem dX3_fillCell_10 : decode cX3_fillCell 10 = .ok (.iconst 0, 1) := by decide +kernel
theorem dX3_fillCell_11 : decode cX3_fillCell 11 = .ok (.istore 5, 2) := by decide +kernel
theorem dX3_fillCell_13 : decode cX3_fillCell 13 = .ok (.iload 5, 2) := by decide +kernel
theorem dX3_fillCell_15 : decode cX3_fillCell 15 = .ok (.bipush 64, 2) := by decide +kernel
theorem dX3_fillCell_17 : decode cX3_fillCell 17 = .ok (.if_icmp .ge 56, 3) := by decide +kernel
theorem dX3_fillCell_20 : decode cX3_fillCell 20 = .ok (.iload_n 3, 1) := by decide +kernel
theorem dX3_fillCell_21 : decode cX3_fillCell 21 = .ok (.iload 4, 2) := by decide +kernel
theorem dX3_fillCell_23 : decode cX3_fillCell 23 = .ok (.aload_n 1, 1) := by decide +kernel
theorem dX3_fillCell_24 : decode cX3_fillCell 24 = .ok (.getfield 28, 3) := by decide +kernel
theorem dX3_fillCell_27 : decode cX3_fillCell 27 = .ok (.iload 5, 2) := by decide +kernel
theorem dX3_fillCell_29 : decode cX3_fillCell 29 = .ok (.iconst 4, 1) := by decide +kernel
theorem dX3_fillCell_30 : decode cX3_fillCell 30 = .ok (.ishr, 1) := by decide +kernel
theorem dX3_fillCell_31 : decode cX3_fillCell 31 = .ok (.iload 5, 2) := by decide +kernel
theorem dX3_fillCell_33 : decode cX3_fillCell 33 = .ok (.iconst 2, 1) := by decide +kernel
theorem dX3_fillCell_34 : decode cX3_fillCell 34 = .ok (.ishr, 1) := by decide +kernel
theorem dX3_fillCell_35 : decode cX3_fillCell 35 = .ok (.iconst 3, 1) := by decide +kernel
theorem dX3_fillCell_36 : decode cX3_fillCell 36 = .ok (.iand, 1) := by decide +kernel
theorem dX3_fillCell_37 : decode cX3_fillCell 37 = .ok (.iload 5, 2) := by decide +kernel
theorem dX3_fillCell_39 : decode cX3_fillCell 39 = .ok (.iconst 3, 1) := by decide +kernel
theorem dX3_fillCell_40 : decode cX3_fillCell 40 = .ok (.iand, 1) := by decide +kernel
theorem dX3_fillCell_41 : decode cX3_fillCell 41 = .ok (.invokestatic 33, 3) := by decide +kernel
theorem dX3_fillCell_44 : decode cX3_fillCell 44 = .ok (.istore 6, 2) := by decide +kernel
theorem dX3_fillCell_46 : decode cX3_fillCell 46 = .ok (.aload_n 0, 1) := by decide +kernel
theorem dX3_fillCell_47 : decode cX3_fillCell 47 = .ok (.getfield 9, 3) := by decide +kernel
theorem dX3_fillCell_50 : decode cX3_fillCell 50 = .ok (.iload_n 2, 1) := by decide +kernel
theorem dX3_fillCell_51 : decode cX3_fillCell 51 = .ok (.bipush 64, 2) := by decide +kernel
theorem dX3_fillCell_53 : decode cX3_fillCell 53 = .ok (.imul, 1) := by decide +kernel
theorem dX3_fillCell_54 : decode cX3_fillCell 54 = .ok (.iload 5, 2) := by decide +kernel
theorem dX3_fillCell_56 : decode cX3_fillCell 56 = .ok (.iadd, 1) := by decide +kernel
theorem dX3_fillCell_57 : decode cX3_fillCell 57 = .ok (.iload 6, 2) := by decide +kernel
theorem dX3_fillCell_59 : decode cX3_fillCell 59 = .ok (.aload_n 1, 1) := by decide +kernel
theorem dX3_fillCell_60 : decode cX3_fillCell 60 = .ok (.getfield 37, 3) := by decide +kernel
theorem dX3_fillCell_63 : decode cX3_fillCell 63 = .ok (.iload_n 2, 1) := by decide +kernel
theorem dX3_fillCell_64 : decode cX3_fillCell 64 = .ok (.iaload, 1) := by decide +kernel
theorem dX3_fillCell_65 : decode cX3_fillCell 65 = .ok (.imul, 1) := by decide +kernel
theorem dX3_fillCell_66 : decode cX3_fillCell 66 = .ok (.iastore, 1) := by decide +kernel
theorem dX3_fillCell_67 : decode cX3_fillCell 67 = .ok (.iinc 5 1, 3) := by decide +kernel
theorem dX3_fillCell_70 : decode cX3_fillCell 70 = .ok (.goto (-57), 3) := by decide +kernel
theorem dX3_fillCell_73 : decode cX3_fillCell 73 = .ok (.return_, 1) := by decide +kernel
theorem dX3_later_0 : decode cX3_later 0 = .ok (.iload_n 2, 1) := by decide +kernel
theorem dX3_later_1 : decode cX3_later 1 = .ok (.iload_n 1, 1) := by decide +kernel
theorem dX3_later_2 : decode cX3_later 2 = .ok (.if_icmp .ne 5, 3) := by decide +kernel
theorem dX3_later_5 : decode cX3_later 5 = .ok (.iload_n 3, 1) := by decide +kernel
theorem dX3_later_6 : decode cX3_later 6 = .ok (.ireturn, 1) := by decide +kernel
theorem dX3_later_7 : decode cX3_later 7 = .ok (.iload_n 3, 1) := by decide +kernel
theorem dX3_later_8 : decode cX3_later 8 = .ok (.iload_n 1, 1) := by decide +kernel
theorem dX3_later_9 : decode cX3_later 9 = .ok (.if_icmp .ne 5, 3) := by decide +kernel
theorem dX3_later_12 : decode cX3_later 12 = .ok (.iload_n 2, 1) := by decide +kernel
theorem dX3_later_13 : decode cX3_later 13 = .ok (.ireturn, 1) := by decide +kernel
theorem dX3_later_14 : decode cX3_later 14 = .ok (.iload_n 0, 1) := by decide +kernel
theorem dX3_later_15 : decode cX3_later 15 = .ok (.tableswitch 40 0 2 #[25, 27, 29], 25) := by decide +kernel
theorem dX3_later_40 : decode cX3_later 40 = .ok (.iload_n 2, 1) := by decide +kernel
theorem dX3_later_41 : decode cX3_later 41 = .ok (.ireturn, 1) := by decide +kernel
theorem dX3_later_42 : decode cX3_later 42 = .ok (.iload_n 3, 1) := by decide +kernel
theorem dX3_later_43 : decode cX3_later 43 = .ok (.ireturn, 1) := by decide +kernel
theorem dX3_later_44 : decode cX3_later 44 = .ok (.iload_n 2, 1) := by decide +kernel
theorem dX3_later_45 : decode cX3_later 45 = .ok (.iload_n 3, 1) := by decide +kernel
theorem dX3_later_46 : decode cX3_later 46 = .ok (.if_icmp .le 7, 3) := by decide +kernel
theorem dX3_later_49 : decode cX3_later 49 = .ok (.iload_n 2, 1) := by decide +kernel
theorem dX3_later_50 : decode cX3_later 50 = .ok (.goto 4, 3) := by decide +kernel
theorem dX3_later_53 : decode cX3_later 53 = .ok (.iload_n 3, 1) := by decide +kernel
theorem dX3_later_54 : decode cX3_later 54 = .ok (.ireturn, 1) := by decide +kernel
theorem dX3_later_55 : decode cX3_later 55 = .ok (.iload_n 1, 1) := by decide +kernel
theorem dX3_later_56 : decode cX3_later 56 = .ok (.ireturn, 1) := by decide +kernel
theorem dX3_mergePacked_0 : decode cX3_mergePacked 0 = .ok (.iload_n 1, 1) := by decide +kernel
theorem dX3_mergePacked_1 : decode cX3_mergePacked 1 = .ok (.iconst 4, 1) := by decide +kernel
theorem dX3_mergePacked_2 : decode cX3_mergePacked 2 = .ok (.ishl, 1) := by decide +kernel
theorem dX3_mergePacked_3 : decode cX3_mergePacked 3 = .ok (.iload_n 2, 1) := by decide +kernel
theorem dX3_mergePacked_4 : decode cX3_mergePacked 4 = .ok (.iconst 2, 1) := by decide +kernel
theorem dX3_mergePacked_5 : decode cX3_mergePacked 5 = .ok (.ishl, 1) := by decide +kernel
theorem dX3_mergePacked_6 : decode cX3_mergePacked 6 = .ok (.ior, 1) := by decide +kernel
theorem dX3_mergePacked_7 : decode cX3_mergePacked 7 = .ok (.iload_n 3, 1) := by decide +kernel
theorem dX3_mergePacked_8 : decode cX3_mergePacked 8 = .ok (.ior, 1) := by decide +kernel
theorem dX3_mergePacked_9 : decode cX3_mergePacked 9 = .ok (.istore 4, 2) := by decide +kernel
theorem dX3_mergePacked_11 : decode cX3_mergePacked 11 = .ok (.aload_n 0, 1) := by decide +kernel
theorem dX3_mergePacked_12 : decode cX3_mergePacked 12 = .ok (.getfield 9, 3) := by decide +kernel
theorem dX3_mergePacked_15 : decode cX3_mergePacked 15 = .ok (.iload 4, 2) := by decide +kernel
theorem dX3_mergePacked_17 : decode cX3_mergePacked 17 = .ok (.bipush 63, 2) := by decide +kernel
theorem dX3_mergePacked_19 : decode cX3_mergePacked 19 = .ok (.iand, 1) := by decide +kernel
theorem dX3_mergePacked_20 : decode cX3_mergePacked 20 = .ok (.iaload, 1) := by decide +kernel
theorem dX3_mergePacked_21 : decode cX3_mergePacked 21 = .ok (.aload_n 0, 1) := by decide +kernel
theorem dX3_mergePacked_22 : decode cX3_mergePacked 22 = .ok (.getfield 9, 3) := by decide +kernel
theorem dX3_mergePacked_25 : decode cX3_mergePacked 25 = .ok (.bipush 64, 2) := by decide +kernel
theorem dX3_mergePacked_27 : decode cX3_mergePacked 27 = .ok (.iload 4, 2) := by decide +kernel
theorem dX3_mergePacked_29 : decode cX3_mergePacked 29 = .ok (.bipush 6, 2) := by decide +kernel
theorem dX3_mergePacked_31 : decode cX3_mergePacked 31 = .ok (.ishr, 1) := by decide +kernel
theorem dX3_mergePacked_32 : decode cX3_mergePacked 32 = .ok (.bipush 63, 2) := by decide +kernel
theorem dX3_mergePacked_34 : decode cX3_mergePacked 34 = .ok (.iand, 1) := by decide +kernel
theorem dX3_mergePacked_35 : decode cX3_mergePacked 35 = .ok (.iadd, 1) := by decide +kernel
theorem dX3_mergePacked_36 : decode cX3_mergePacked 36 = .ok (.iaload, 1) := by decide +kernel
theorem dX3_mergePacked_37 : decode cX3_mergePacked 37 = .ok (.iadd, 1) := by decide +kernel
theorem dX3_mergePacked_38 : decode cX3_mergePacked 38 = .ok (.aload_n 0, 1) := by decide +kernel
theorem dX3_mergePacked_39 : decode cX3_mergePacked 39 = .ok (.getfield 9, 3) := by decide +kernel
theorem dX3_mergePacked_42 : decode cX3_mergePacked 42 = .ok (.sipush 128, 3) := by decide +kernel
theorem dX3_mergePacked_45 : decode cX3_mergePacked 45 = .ok (.iload 4, 2) := by decide +kernel
theorem dX3_mergePacked_47 : decode cX3_mergePacked 47 = .ok (.bipush 12, 2) := by decide +kernel
theorem dX3_mergePacked_49 : decode cX3_mergePacked 49 = .ok (.ishr, 1) := by decide +kernel
theorem dX3_mergePacked_50 : decode cX3_mergePacked 50 = .ok (.bipush 63, 2) := by decide +kernel
theorem dX3_mergePacked_52 : decode cX3_mergePacked 52 = .ok (.iand, 1) := by decide +kernel
theorem dX3_mergePacked_53 : decode cX3_mergePacked 53 = .ok (.iadd, 1) := by decide +kernel
theorem dX3_mergePacked_54 : decode cX3_mergePacked 54 = .ok (.iaload, 1) := by decide +kernel
theorem dX3_mergePacked_55 : decode cX3_mergePacked 55 = .ok (.iadd, 1) := by decide +kernel
theorem dX3_mergePacked_56 : decode cX3_mergePacked 56 = .ok (.ireturn, 1) := by decide +kernel
theorem dX3_mix_0 : decode cX3_mix 0 = .ok (.iload_n 0, 1) := by decide +kernel
theorem dX3_mix_1 : decode cX3_mix 1 = .ok (.tableswitch 59 0 2 #[27, 35, 43], 27) := by decide +kernel
theorem dX3_mix_28 : decode cX3_mix 28 = .ok (.iload 4, 2) := by decide +kernel
theorem dX3_mix_30 : decode cX3_mix 30 = .ok (.iload 5, 2) := by decide +kernel
theorem dX3_mix_32 : decode cX3_mix 32 = .ok (.invokestatic 40, 3) := by decide +kernel
theorem dX3_mix_35 : decode cX3_mix 35 = .ok (.ireturn, 1) := by decide +kernel
theorem dX3_mix_36 : decode cX3_mix 36 = .ok (.iload 4, 2) := by decide +kernel
theorem dX3_mix_38 : decode cX3_mix 38 = .ok (.iload 5, 2) := by decide +kernel
theorem dX3_mix_40 : decode cX3_mix 40 = .ok (.invokestatic 46, 3) := by decide +kernel
theorem dX3_mix_43 : decode cX3_mix 43 = .ok (.ireturn, 1) := by decide +kernel
theorem dX3_mix_44 : decode cX3_mix 44 = .ok (.iconst 0, 1) := by decide +kernel
theorem dX3_mix_45 : decode cX3_mix 45 = .ok (.iload_n 2, 1) := by decide +kernel
theorem dX3_mix_46 : decode cX3_mix 46 = .ok (.iload 4, 2) := by decide +kernel
theorem dX3_mix_48 : decode cX3_mix 48 = .ok (.iload 5, 2) := by decide +kernel
theorem dX3_mix_50 : decode cX3_mix 50 = .ok (.iadd, 1) := by decide +kernel
theorem dX3_mix_51 : decode cX3_mix 51 = .ok (.iload_n 3, 1) := by decide +kernel
theorem dX3_mix_52 : decode cX3_mix 52 = .ok (.isub, 1) := by decide +kernel
theorem dX3_mix_53 : decode cX3_mix 53 = .ok (.invokestatic 46, 3) := by decide +kernel
theorem dX3_mix_56 : decode cX3_mix 56 = .ok (.invokestatic 40, 3) := by decide +kernel
theorem dX3_mix_59 : decode cX3_mix 59 = .ok (.ireturn, 1) := by decide +kernel
theorem dX3_mix_60 : decode cX3_mix 60 = .ok (.iload_n 1, 1) := by decide +kernel
theorem dX3_mix_61 : decode cX3_mix 61 = .ok (.iload_n 3, 1) := by decide +kernel
theorem dX3_mix_62 : decode cX3_mix 62 = .ok (.iload 4, 2) := by decide +kernel
theorem dX3_mix_64 : decode cX3_mix 64 = .ok (.iload 5, 2) := by decide +kernel
theorem dX3_mix_66 : decode cX3_mix 66 = .ok (.invokestatic 49, 3) := by decide +kernel
theorem dX3_mix_69 : decode cX3_mix 69 = .ok (.ireturn, 1) := by decide +kernel
theorem dX6_keeps_0 : decode cX6_keeps 0 = .ok (.aload_n 0, 1) := by decide +kernel
theorem dX6_keeps_1 : decode cX6_keeps 1 = .ok (.getfield 32, 3) := by decide +kernel
theorem dX6_keeps_4 : decode cX6_keeps 4 = .ok (.iload_n 1, 1) := by decide +kernel
theorem dX6_keeps_5 : decode cX6_keeps 5 = .ok (.laload, 1) := by decide +kernel
theorem dX6_keeps_6 : decode cX6_keeps 6 = .ok (.iload_n 2, 1) := by decide +kernel
theorem dX6_keeps_7 : decode cX6_keeps 7 = .ok (.lushr, 1) := by decide +kernel
theorem dX6_keeps_8 : decode cX6_keeps 8 = .ok (.lconst 1, 1) := by decide +kernel
theorem dX6_keeps_9 : decode cX6_keeps 9 = .ok (.land, 1) := by decide +kernel
theorem dX6_keeps_10 : decode cX6_keeps 10 = .ok (.lconst 0, 1) := by decide +kernel
theorem dX6_keeps_11 : decode cX6_keeps 11 = .ok (.lcmp, 1) := by decide +kernel
theorem dX6_keeps_12 : decode cX6_keeps 12 = .ok (.ifCond .eq 7, 3) := by decide +kernel
theorem dX6_keeps_15 : decode cX6_keeps 15 = .ok (.iconst 1, 1) := by decide +kernel
theorem dX6_keeps_16 : decode cX6_keeps 16 = .ok (.goto 4, 3) := by decide +kernel
theorem dX6_keeps_19 : decode cX6_keeps 19 = .ok (.iconst 0, 1) := by decide +kernel
theorem dX6_keeps_20 : decode cX6_keeps 20 = .ok (.ireturn, 1) := by decide +kernel
theorem iuX2_asTold_X0 : ∀ w ∈ u_ws RX0 TX0 15, w ∈ W_X2_asTold := fun w h => List.mem_cons_of_mem _ (List.mem_append_right _ (List.mem_append_right _ (List.mem_append_left _ (h))))
theorem iuX2_asTold_X2 : ∀ w ∈ u_ws RX2 TX2 12, w ∈ W_X2_asTold := fun w h => List.mem_cons_of_mem _ (List.mem_append_right _ (List.mem_append_left _ (h)))
theorem iuX2_clashesOf_X2 : ∀ w ∈ u_ws RX2 TX2 12, w ∈ W_X2_clashesOf := fun w h => List.mem_cons_of_mem _ (List.mem_append_right _ (List.mem_append_left _ (h)))
theorem iuX2_clashesOf_X6 : ∀ w ∈ u_ws RX6 TX6 8, w ∈ W_X2_clashesOf := fun w h => List.mem_cons_of_mem _ (List.mem_append_right _ (List.mem_append_right _ (List.mem_append_left _ (h))))
theorem iuX2_commuting_X2 : ∀ w ∈ u_ws RX2 TX2 12, w ∈ W_X2_commuting := fun w h => List.mem_cons_of_mem _ (List.mem_append_right _ (List.mem_append_left _ (h)))
theorem iuX2_commuting_X6 : ∀ w ∈ u_ws RX6 TX6 8, w ∈ W_X2_commuting := fun w h => List.mem_cons_of_mem _ (List.mem_append_right _ (List.mem_append_right _ (List.mem_append_left _ (h))))
theorem iuX2_firstBroken_X0 : ∀ w ∈ u_ws RX0 TX0 15, w ∈ W_X2_firstBroken := fun w h => List.mem_cons_of_mem _ (List.mem_append_right _ (List.mem_append_right _ (List.mem_append_left _ (h))))
theorem iuX2_firstBroken_X2 : ∀ w ∈ u_ws RX2 TX2 12, w ∈ W_X2_firstBroken := fun w h => List.mem_cons_of_mem _ (List.mem_append_right _ (List.mem_append_left _ (h)))
theorem iuX2_firstStep_X0 : ∀ w ∈ u_ws RX0 TX0 15, w ∈ W_X2_firstStep := fun w h => List.mem_cons_of_mem _ (List.mem_append_right _ (List.mem_append_right _ (List.mem_append_left _ (h))))
theorem iuX2_firstStep_X2 : ∀ w ∈ u_ws RX2 TX2 12, w ∈ W_X2_firstStep := fun w h => List.mem_cons_of_mem _ (List.mem_append_right _ (List.mem_append_left _ (h)))
theorem iuX2_isBrokenBy_X2 : ∀ w ∈ u_ws RX2 TX2 12, w ∈ W_X2_isBrokenBy := fun w h => List.mem_cons_of_mem _ (List.mem_append_right _ (List.mem_append_left _ (h)))
theorem iuX2_isValid_X2 : ∀ w ∈ u_ws RX2 TX2 12, w ∈ W_X2_isValid := fun w h => List.mem_cons_of_mem _ (List.mem_append_right _ (h))
theorem iuX2_merged_X2 : ∀ w ∈ u_ws RX2 TX2 12, w ∈ W_X2_merged := fun w h => List.mem_cons_of_mem _ (List.mem_append_right _ (List.mem_append_left _ (h)))
theorem iuX2_merged_X6 : ∀ w ∈ u_ws RX6 TX6 8, w ∈ W_X2_merged := fun w h => List.mem_cons_of_mem _ (List.mem_append_right _ (List.mem_append_right _ (List.mem_append_left _ (h))))
theorem iuX2_openOps_X0 : ∀ w ∈ u_ws RX0 TX0 15, w ∈ W_X2_openOps := fun w h => List.mem_cons_of_mem _ (List.mem_append_right _ (List.mem_append_right _ (List.mem_append_left _ (h))))
theorem iuX2_openOps_X2 : ∀ w ∈ u_ws RX2 TX2 12, w ∈ W_X2_openOps := fun w h => List.mem_cons_of_mem _ (List.mem_append_right _ (List.mem_append_left _ (h)))
theorem iuX2_outcome_X2 : ∀ w ∈ u_ws RX2 TX2 12, w ∈ W_X2_outcome := fun w h => List.mem_cons_of_mem _ (List.mem_append_right _ (List.mem_append_left _ (h)))
theorem iuX2_outcome_X6 : ∀ w ∈ u_ws RX6 TX6 8, w ∈ W_X2_outcome := fun w h => List.mem_cons_of_mem _ (List.mem_append_right _ (List.mem_append_right _ (h)))
theorem iuX2_spread_X0 : ∀ w ∈ u_ws RX0 TX0 15, w ∈ W_X2_spread := fun w h => List.mem_cons_of_mem _ (List.mem_append_right _ (List.mem_append_right _ (List.mem_append_left _ (h))))
theorem iuX2_spread_X2 : ∀ w ∈ u_ws RX2 TX2 12, w ∈ W_X2_spread := fun w h => List.mem_cons_of_mem _ (List.mem_append_right _ (List.mem_append_left _ (h)))
theorem iuX2_suppose_X0 : ∀ w ∈ u_ws RX0 TX0 15, w ∈ W_X2_suppose := fun w h => List.mem_cons_of_mem _ (List.mem_append_right _ (List.mem_append_right _ (List.mem_append_right _ (h))))
theorem iuX2_suppose_X2 : ∀ w ∈ u_ws RX2 TX2 12, w ∈ W_X2_suppose := fun w h => List.mem_cons_of_mem _ (List.mem_append_right _ (List.mem_append_left _ (h)))
theorem iuX2_suppose_X6 : ∀ w ∈ u_ws RX6 TX6 8, w ∈ W_X2_suppose := fun w h => List.mem_cons_of_mem _ (List.mem_append_right _ (List.mem_append_right _ (List.mem_append_left _ (h))))
theorem iuX2_worksFrom_X2 : ∀ w ∈ u_ws RX2 TX2 12, w ∈ W_X2_worksFrom := fun w h => List.mem_cons_of_mem _ (List.mem_append_right _ (List.mem_append_left _ (h)))
theorem iuX2_worksFrom_X6 : ∀ w ∈ u_ws RX6 TX6 8, w ∈ W_X2_worksFrom := fun w h => List.mem_cons_of_mem _ (List.mem_append_right _ (List.mem_append_right _ (List.mem_append_left _ (h))))
theorem iuX3_fill_X0 : ∀ w ∈ u_ws RX0 TX0 15, w ∈ W_X3_fill := fun w h => List.mem_cons_of_mem _ (List.mem_append_right _ (List.mem_append_left _ (h)))
theorem iuX3_fillCell_X3 : ∀ w ∈ u_ws RX3 TX3 1, w ∈ W_X3_fillCell := fun w h => List.mem_cons_of_mem _ (List.mem_append_right _ (List.mem_append_right _ (List.mem_append_left _ (h))))
theorem iuX3_fillCell_X6 : ∀ w ∈ u_ws RX6 TX6 8, w ∈ W_X3_fillCell := fun w h => List.mem_cons_of_mem _ (List.mem_append_right _ (List.mem_append_left _ (h)))
theorem iuX3_mergePacked_X3 : ∀ w ∈ u_ws RX3 TX3 1, w ∈ W_X3_mergePacked := fun w h => List.mem_cons_of_mem _ (List.mem_append_right _ (h))
theorem iuX6_keeps_X6 : ∀ w ∈ u_ws RX6 TX6 8, w ∈ W_X6_keeps := fun w h => List.mem_cons_of_mem _ (List.mem_append_right _ (h))
theorem gw_X2_asTold_X3_fill : GoodIn W_X2_asTold W_X3_fill := fun w h => ⟨List.mem_cons_of_mem _ (List.mem_append_right _ (List.mem_append_right _ (List.mem_append_right _ (List.mem_append_left _ (h))))), (wI_X3_fill w h).2⟩
theorem gc_X2_asTold_62_X3_fill : GoodIn W_X2_asTold (wsV RX2 62 RX3 yX3_fill W_X3_fill) := goodIn_app (goodIn_sub (List.forall_mem_cons.mpr ⟨List.mem_cons_of_mem _ (List.mem_append_left _ (List.mem_of_getElem? (i := 4) rfl)), List.forall_mem_cons.mpr ⟨List.mem_cons_of_mem _ (List.mem_append_left _ (List.mem_of_getElem? (i := 5) rfl)), List.forall_mem_cons.mpr ⟨List.mem_cons_of_mem _ (List.mem_append_left _ (List.mem_of_getElem? (i := 6) rfl)), List.forall_mem_cons.mpr ⟨List.mem_cons_of_mem _ (List.mem_append_left _ (List.mem_of_getElem? (i := 7) rfl)), fun _ h => absurd h List.not_mem_nil⟩⟩⟩⟩) (by decide +kernel)) gw_X2_asTold_X3_fill
theorem gw_X2_asTold_X2_suppose : GoodIn W_X2_asTold W_X2_suppose := fun w h => ⟨List.mem_cons_of_mem _ (List.mem_append_right _ (List.mem_append_right _ (List.mem_append_right _ (List.mem_append_right _ (h))))), (wI_X2_suppose w h).2⟩
theorem gc_X2_asTold_72_X2_suppose : GoodIn W_X2_asTold (wsV RX2 72 RX2 yX2_suppose W_X2_suppose) := goodIn_app (goodIn_sub (List.forall_mem_cons.mpr ⟨List.mem_cons_of_mem _ (List.mem_append_left _ (List.mem_of_getElem? (i := 10) rfl)), List.forall_mem_cons.mpr ⟨List.mem_cons_of_mem _ (List.mem_append_left _ (List.mem_of_getElem? (i := 11) rfl)), List.forall_mem_cons.mpr ⟨List.mem_cons_of_mem _ (List.mem_append_left _ (List.mem_of_getElem? (i := 12) rfl)), List.forall_mem_cons.mpr ⟨List.mem_cons_of_mem _ (List.mem_append_left _ (List.mem_of_getElem? (i := 13) rfl)), fun _ h => absurd h List.not_mem_nil⟩⟩⟩⟩) (by decide +kernel)) gw_X2_asTold_X2_suppose
theorem gw_X2_clashesOf_X2_merged : GoodIn W_X2_clashesOf W_X2_merged := fun w h => ⟨List.mem_cons_of_mem _ (List.mem_append_right _ (List.mem_append_right _ (List.mem_append_right _ (List.mem_append_right _ (List.mem_append_right _ (h)))))), (wI_X2_merged w h).2⟩
theorem gc_X2_clashesOf_118_X2_merged : GoodIn W_X2_clashesOf (wsV RX2 118 RX2 yX2_merged W_X2_merged) := goodIn_app (goodIn_sub (List.forall_mem_cons.mpr ⟨List.mem_cons_of_mem _ (List.mem_append_left _ (List.mem_of_getElem? (i := 9) rfl)), List.forall_mem_cons.mpr ⟨List.mem_cons_of_mem _ (List.mem_append_left _ (List.mem_of_getElem? (i := 10) rfl)), List.forall_mem_cons.mpr ⟨List.mem_cons_of_mem _ (List.mem_append_left _ (List.mem_of_getElem? (i := 11) rfl)), List.forall_mem_cons.mpr ⟨List.mem_cons_of_mem _ (List.mem_append_left _ (List.mem_of_getElem? (i := 5) rfl)), fun _ h => absurd h List.not_mem_nil⟩⟩⟩⟩) (by decide +kernel)) gw_X2_clashesOf_X2_merged
theorem gw_X2_clashesOf_X2_outcome : GoodIn W_X2_clashesOf W_X2_outcome := fun w h => ⟨List.mem_cons_of_mem _ (List.mem_append_right _ (List.mem_append_right _ (List.mem_append_right _ (List.mem_append_left _ (h))))), (wI_X2_outcome w h).2⟩
theorem gc_X2_clashesOf_136_X2_outcome : GoodIn W_X2_clashesOf (wsV RX2 136 RX2 yX2_outcome W_X2_outcome) := goodIn_app (goodIn_sub (List.forall_mem_cons.mpr ⟨List.mem_cons_of_mem _ (List.mem_append_left _ (List.mem_of_getElem? (i := 2) rfl)), List.forall_mem_cons.mpr ⟨List.mem_cons_of_mem _ (List.mem_append_left _ (List.mem_of_getElem? (i := 3) rfl)), List.forall_mem_cons.mpr ⟨List.mem_cons_of_mem _ (List.mem_append_left _ (List.mem_of_getElem? (i := 4) rfl)), List.forall_mem_cons.mpr ⟨List.mem_cons_of_mem _ (List.mem_append_left _ (List.mem_of_getElem? (i := 5) rfl)), fun _ h => absurd h List.not_mem_nil⟩⟩⟩⟩) (by decide +kernel)) gw_X2_clashesOf_X2_outcome
theorem gw_X2_clashesOf_X2_isValid : GoodIn W_X2_clashesOf W_X2_isValid := fun w h => ⟨List.mem_cons_of_mem _ (List.mem_append_right _ (List.mem_append_right _ (List.mem_append_right _ (List.mem_append_right _ (List.mem_append_left _ (h)))))), (wI_X2_isValid w h).2⟩
theorem gc_X2_clashesOf_140_X2_isValid : GoodIn W_X2_clashesOf (wsV RX2 140 RX2 yX2_isValid W_X2_isValid) := goodIn_app (goodIn_sub (List.forall_mem_cons.mpr ⟨List.mem_cons_of_mem _ (List.mem_append_left _ (List.mem_of_getElem? (i := 6) rfl)), List.forall_mem_cons.mpr ⟨List.mem_cons_of_mem _ (List.mem_append_left _ (List.mem_of_getElem? (i := 7) rfl)), List.forall_mem_cons.mpr ⟨List.mem_cons_of_mem _ (List.mem_append_left _ (List.mem_of_getElem? (i := 8) rfl)), List.forall_mem_cons.mpr ⟨List.mem_cons_of_mem _ (List.mem_append_left _ (List.mem_of_getElem? (i := 5) rfl)), fun _ h => absurd h List.not_mem_nil⟩⟩⟩⟩) (by decide +kernel)) gw_X2_clashesOf_X2_isValid
theorem gw_X2_commuting_X2_outcome : GoodIn W_X2_commuting W_X2_outcome := fun w h => ⟨List.mem_cons_of_mem _ (List.mem_append_right _ (List.mem_append_right _ (List.mem_append_right _ (List.mem_append_left _ (h))))), (wI_X2_outcome w h).2⟩
theorem gc_X2_commuting_136_X2_outcome : GoodIn W_X2_commuting (wsV RX2 136 RX2 yX2_outcome W_X2_outcome) := goodIn_app (goodIn_sub (List.forall_mem_cons.mpr ⟨List.mem_cons_of_mem _ (List.mem_append_left _ (List.mem_of_getElem? (i := 2) rfl)), List.forall_mem_cons.mpr ⟨List.mem_cons_of_mem _ (List.mem_append_left _ (List.mem_of_getElem? (i := 3) rfl)), List.forall_mem_cons.mpr ⟨List.mem_cons_of_mem _ (List.mem_append_left _ (List.mem_of_getElem? (i := 4) rfl)), List.forall_mem_cons.mpr ⟨List.mem_cons_of_mem _ (List.mem_append_left _ (List.mem_of_getElem? (i := 5) rfl)), fun _ h => absurd h List.not_mem_nil⟩⟩⟩⟩) (by decide +kernel)) gw_X2_commuting_X2_outcome
theorem gw_X2_commuting_X2_isValid : GoodIn W_X2_commuting W_X2_isValid := fun w h => ⟨List.mem_cons_of_mem _ (List.mem_append_right _ (List.mem_append_right _ (List.mem_append_right _ (List.mem_append_right _ (h))))), (wI_X2_isValid w h).2⟩
theorem gc_X2_commuting_140_X2_isValid : GoodIn W_X2_commuting (wsV RX2 140 RX2 yX2_isValid W_X2_isValid) := goodIn_app (goodIn_sub (List.forall_mem_cons.mpr ⟨List.mem_cons_of_mem _ (List.mem_append_left _ (List.mem_of_getElem? (i := 6) rfl)), List.forall_mem_cons.mpr ⟨List.mem_cons_of_mem _ (List.mem_append_left _ (List.mem_of_getElem? (i := 7) rfl)), List.forall_mem_cons.mpr ⟨List.mem_cons_of_mem _ (List.mem_append_left _ (List.mem_of_getElem? (i := 8) rfl)), List.forall_mem_cons.mpr ⟨List.mem_cons_of_mem _ (List.mem_append_left _ (List.mem_of_getElem? (i := 5) rfl)), fun _ h => absurd h List.not_mem_nil⟩⟩⟩⟩) (by decide +kernel)) gw_X2_commuting_X2_isValid
theorem gw_X2_distance_X2_isValid : GoodIn W_X2_distance W_X2_isValid := fun w h => ⟨List.mem_cons_of_mem _ (List.mem_append_right _ (List.mem_append_left _ (h))), (wI_X2_isValid w h).2⟩
theorem gc_X2_distance_140_X2_isValid : GoodIn W_X2_distance (wsV RX2 140 RX2 yX2_isValid W_X2_isValid) := goodIn_app (goodIn_sub (List.forall_mem_cons.mpr ⟨List.mem_cons_of_mem _ (List.mem_append_left _ (List.mem_of_getElem? (i := 0) rfl)), List.forall_mem_cons.mpr ⟨List.mem_cons_of_mem _ (List.mem_append_left _ (List.mem_of_getElem? (i := 1) rfl)), List.forall_mem_cons.mpr ⟨List.mem_cons_of_mem _ (List.mem_append_left _ (List.mem_of_getElem? (i := 2) rfl)), List.forall_mem_cons.mpr ⟨List.mem_cons_of_mem _ (List.mem_append_left _ (List.mem_of_getElem? (i := 3) rfl)), fun _ h => absurd h List.not_mem_nil⟩⟩⟩⟩) (by decide +kernel)) gw_X2_distance_X2_isValid
theorem gw_X2_distance_X2_spread : GoodIn W_X2_distance W_X2_spread := fun w h => ⟨List.mem_cons_of_mem _ (List.mem_append_right _ (List.mem_append_right _ (h))), (wI_X2_spread w h).2⟩
theorem gc_X2_distance_149_X2_spread : GoodIn W_X2_distance (wsV RX2 149 RX2 yX2_spread W_X2_spread) := goodIn_app (goodIn_sub (List.forall_mem_cons.mpr ⟨List.mem_cons_of_mem _ (List.mem_append_left _ (List.mem_of_getElem? (i := 4) rfl)), List.forall_mem_cons.mpr ⟨List.mem_cons_of_mem _ (List.mem_append_left _ (List.mem_of_getElem? (i := 5) rfl)), List.forall_mem_cons.mpr ⟨List.mem_cons_of_mem _ (List.mem_append_left _ (List.mem_of_getElem? (i := 6) rfl)), List.forall_mem_cons.mpr ⟨List.mem_cons_of_mem _ (List.mem_append_left _ (List.mem_of_getElem? (i := 3) rfl)), fun _ h => absurd h List.not_mem_nil⟩⟩⟩⟩) (by decide +kernel)) gw_X2_distance_X2_spread
theorem gw_X2_firstBroken_X2_isBrokenBy : GoodIn W_X2_firstBroken W_X2_isBrokenBy := fun w h => ⟨List.mem_cons_of_mem _ (List.mem_append_right _ (List.mem_append_right _ (List.mem_append_right _ (h)))), (wI_X2_isBrokenBy w h).2⟩
theorem gc_X2_firstBroken_124_X2_isBrokenBy : GoodIn W_X2_firstBroken (wsV RX2 124 RX2 yX2_isBrokenBy W_X2_isBrokenBy) := goodIn_app (goodIn_sub (List.forall_mem_cons.mpr ⟨List.mem_cons_of_mem _ (List.mem_append_left _ (List.mem_of_getElem? (i := 2) rfl)), List.forall_mem_cons.mpr ⟨List.mem_cons_of_mem _ (List.mem_append_left _ (List.mem_of_getElem? (i := 3) rfl)), List.forall_mem_cons.mpr ⟨List.mem_cons_of_mem _ (List.mem_append_left _ (List.mem_of_getElem? (i := 4) rfl)), List.forall_mem_cons.mpr ⟨List.mem_cons_of_mem _ (List.mem_append_left _ (List.mem_of_getElem? (i := 5) rfl)), fun _ h => absurd h List.not_mem_nil⟩⟩⟩⟩) (by decide +kernel)) gw_X2_firstBroken_X2_isBrokenBy
theorem gw_X2_firstStep_X2_outcome : GoodIn W_X2_firstStep W_X2_outcome := fun w h => ⟨List.mem_cons_of_mem _ (List.mem_append_right _ (List.mem_append_right _ (List.mem_append_right _ (List.mem_append_right _ (List.mem_append_left _ (h)))))), (wI_X2_outcome w h).2⟩
theorem gc_X2_firstStep_136_X2_outcome : GoodIn W_X2_firstStep (wsV RX2 136 RX2 yX2_outcome W_X2_outcome) := goodIn_app (goodIn_sub (List.forall_mem_cons.mpr ⟨List.mem_cons_of_mem _ (List.mem_append_left _ (List.mem_of_getElem? (i := 6) rfl)), List.forall_mem_cons.mpr ⟨List.mem_cons_of_mem _ (List.mem_append_left _ (List.mem_of_getElem? (i := 7) rfl)), List.forall_mem_cons.mpr ⟨List.mem_cons_of_mem _ (List.mem_append_left _ (List.mem_of_getElem? (i := 8) rfl)), List.forall_mem_cons.mpr ⟨List.mem_cons_of_mem _ (List.mem_append_left _ (List.mem_of_getElem? (i := 3) rfl)), fun _ h => absurd h List.not_mem_nil⟩⟩⟩⟩) (by decide +kernel)) gw_X2_firstStep_X2_outcome
theorem gw_X2_firstStep_X2_spread : GoodIn W_X2_firstStep W_X2_spread := fun w h => ⟨List.mem_cons_of_mem _ (List.mem_append_right _ (List.mem_append_right _ (List.mem_append_right _ (List.mem_append_right _ (List.mem_append_right _ (h)))))), (wI_X2_spread w h).2⟩
theorem gc_X2_firstStep_149_X2_spread : GoodIn W_X2_firstStep (wsV RX2 149 RX2 yX2_spread W_X2_spread) := goodIn_app (goodIn_sub (List.forall_mem_cons.mpr ⟨List.mem_cons_of_mem _ (List.mem_append_left _ (List.mem_of_getElem? (i := 9) rfl)), List.forall_mem_cons.mpr ⟨List.mem_cons_of_mem _ (List.mem_append_left _ (List.mem_of_getElem? (i := 10) rfl)), List.forall_mem_cons.mpr ⟨List.mem_cons_of_mem _ (List.mem_append_left _ (List.mem_of_getElem? (i := 11) rfl)), List.forall_mem_cons.mpr ⟨List.mem_cons_of_mem _ (List.mem_append_left _ (List.mem_of_getElem? (i := 3) rfl)), fun _ h => absurd h List.not_mem_nil⟩⟩⟩⟩) (by decide +kernel)) gw_X2_firstStep_X2_spread
theorem gw_X2_firstStep_X2_distance : GoodIn W_X2_firstStep W_X2_distance := fun w h => ⟨List.mem_cons_of_mem _ (List.mem_append_right _ (List.mem_append_right _ (List.mem_append_right _ (List.mem_append_left _ (h))))), (wI_X2_distance w h).2⟩
theorem gc_X2_firstStep_153_X2_distance : GoodIn W_X2_firstStep (wsV RX2 153 RX2 yX2_distance W_X2_distance) := goodIn_app (goodIn_sub (List.forall_mem_cons.mpr ⟨List.mem_cons_of_mem _ (List.mem_append_left _ (List.mem_of_getElem? (i := 0) rfl)), List.forall_mem_cons.mpr ⟨List.mem_cons_of_mem _ (List.mem_append_left _ (List.mem_of_getElem? (i := 1) rfl)), List.forall_mem_cons.mpr ⟨List.mem_cons_of_mem _ (List.mem_append_left _ (List.mem_of_getElem? (i := 2) rfl)), List.forall_mem_cons.mpr ⟨List.mem_cons_of_mem _ (List.mem_append_left _ (List.mem_of_getElem? (i := 3) rfl)), fun _ h => absurd h List.not_mem_nil⟩⟩⟩⟩) (by decide +kernel)) gw_X2_firstStep_X2_distance
theorem gw_X2_isBrokenBy_X6_keeps : GoodIn W_X2_isBrokenBy W_X6_keeps := fun w h => ⟨List.mem_cons_of_mem _ (List.mem_append_right _ (List.mem_append_right _ (h))), (wI_X6_keeps w h).2⟩
theorem gc_X2_isBrokenBy_127_X6_keeps : GoodIn W_X2_isBrokenBy (wsV RX2 127 RX6 yX6_keeps W_X6_keeps) := goodIn_app (goodIn_sub (List.forall_mem_cons.mpr ⟨List.mem_cons_of_mem _ (List.mem_append_left _ (List.mem_of_getElem? (i := 2) rfl)), List.forall_mem_cons.mpr ⟨List.mem_cons_of_mem _ (List.mem_append_left _ (List.mem_of_getElem? (i := 3) rfl)), List.forall_mem_cons.mpr ⟨List.mem_cons_of_mem _ (List.mem_append_left _ (List.mem_of_getElem? (i := 4) rfl)), List.forall_mem_cons.mpr ⟨List.mem_cons_of_mem _ (List.mem_append_left _ (List.mem_of_getElem? (i := 5) rfl)), fun _ h => absurd h List.not_mem_nil⟩⟩⟩⟩) (by decide +kernel)) gw_X2_isBrokenBy_X6_keeps
theorem gw_X2_merged_X3_mergePacked : GoodIn W_X2_merged W_X3_mergePacked := fun w h => ⟨List.mem_cons_of_mem _ (List.mem_append_right _ (List.mem_append_right _ (List.mem_append_right _ (h)))), (wI_X3_mergePacked w h).2⟩
theorem gc_X2_merged_146_X3_mergePacked : GoodIn W_X2_merged (wsV RX2 146 RX3 yX3_mergePacked W_X3_mergePacked) := goodIn_app (goodIn_sub (List.forall_mem_cons.mpr ⟨List.mem_cons_of_mem _ (List.mem_append_left _ (List.mem_of_getElem? (i := 3) rfl)), List.forall_mem_cons.mpr ⟨List.mem_cons_of_mem _ (List.mem_append_left _ (List.mem_of_getElem? (i := 4) rfl)), List.forall_mem_cons.mpr ⟨List.mem_cons_of_mem _ (List.mem_append_left _ (List.mem_of_getElem? (i := 5) rfl)), List.forall_mem_cons.mpr ⟨List.mem_cons_of_mem _ (List.mem_append_left _ (List.mem_of_getElem? (i := 6) rfl)), fun _ h => absurd h List.not_mem_nil⟩⟩⟩⟩) (by decide +kernel)) gw_X2_merged_X3_mergePacked
theorem gw_X2_openOps_X2_outcome : GoodIn W_X2_openOps W_X2_outcome := fun w h => ⟨List.mem_cons_of_mem _ (List.mem_append_right _ (List.mem_append_right _ (List.mem_append_right _ (h)))), (wI_X2_outcome w h).2⟩
theorem gc_X2_openOps_136_X2_outcome : GoodIn W_X2_openOps (wsV RX2 136 RX2 yX2_outcome W_X2_outcome) := goodIn_app (goodIn_sub (List.forall_mem_cons.mpr ⟨List.mem_cons_of_mem _ (List.mem_append_left _ (List.mem_of_getElem? (i := 2) rfl)), List.forall_mem_cons.mpr ⟨List.mem_cons_of_mem _ (List.mem_append_left _ (List.mem_of_getElem? (i := 3) rfl)), List.forall_mem_cons.mpr ⟨List.mem_cons_of_mem _ (List.mem_append_left _ (List.mem_of_getElem? (i := 4) rfl)), List.forall_mem_cons.mpr ⟨List.mem_cons_of_mem _ (List.mem_append_left _ (List.mem_of_getElem? (i := 5) rfl)), fun _ h => absurd h List.not_mem_nil⟩⟩⟩⟩) (by decide +kernel)) gw_X2_openOps_X2_outcome
theorem gw_X2_spread_X2_outcome : GoodIn W_X2_spread W_X2_outcome := fun w h => ⟨List.mem_cons_of_mem _ (List.mem_append_right _ (List.mem_append_right _ (List.mem_append_right _ (h)))), (wI_X2_outcome w h).2⟩
theorem gc_X2_spread_136_X2_outcome : GoodIn W_X2_spread (wsV RX2 136 RX2 yX2_outcome W_X2_outcome) := goodIn_app (goodIn_sub (List.forall_mem_cons.mpr ⟨List.mem_cons_of_mem _ (List.mem_append_left _ (List.mem_of_getElem? (i := 3) rfl)), List.forall_mem_cons.mpr ⟨List.mem_cons_of_mem _ (List.mem_append_left _ (List.mem_of_getElem? (i := 4) rfl)), List.forall_mem_cons.mpr ⟨List.mem_cons_of_mem _ (List.mem_append_left _ (List.mem_of_getElem? (i := 5) rfl)), List.forall_mem_cons.mpr ⟨List.mem_cons_of_mem _ (List.mem_append_left _ (List.mem_of_getElem? (i := 6) rfl)), fun _ h => absurd h List.not_mem_nil⟩⟩⟩⟩) (by decide +kernel)) gw_X2_spread_X2_outcome
theorem gw_X2_worksFrom_X2_outcome : GoodIn W_X2_worksFrom W_X2_outcome := fun w h => ⟨List.mem_cons_of_mem _ (List.mem_append_right _ (List.mem_append_right _ (List.mem_append_right _ (List.mem_append_right _ (h))))), (wI_X2_outcome w h).2⟩
theorem gc_X2_worksFrom_136_X2_outcome : GoodIn W_X2_worksFrom (wsV RX2 136 RX2 yX2_outcome W_X2_outcome) := goodIn_app (goodIn_sub (List.forall_mem_cons.mpr ⟨List.mem_cons_of_mem _ (List.mem_append_left _ (List.mem_of_getElem? (i := 6) rfl)), List.forall_mem_cons.mpr ⟨List.mem_cons_of_mem _ (List.mem_append_left _ (List.mem_of_getElem? (i := 7) rfl)), List.forall_mem_cons.mpr ⟨List.mem_cons_of_mem _ (List.mem_append_left _ (List.mem_of_getElem? (i := 8) rfl)), List.forall_mem_cons.mpr ⟨List.mem_cons_of_mem _ (List.mem_append_left _ (List.mem_of_getElem? (i := 5) rfl)), fun _ h => absurd h List.not_mem_nil⟩⟩⟩⟩) (by decide +kernel)) gw_X2_worksFrom_X2_outcome
theorem gw_X2_worksFrom_X2_isValid : GoodIn W_X2_worksFrom W_X2_isValid := fun w h => ⟨List.mem_cons_of_mem _ (List.mem_append_right _ (List.mem_append_right _ (List.mem_append_right _ (List.mem_append_left _ (h))))), (wI_X2_isValid w h).2⟩
theorem gc_X2_worksFrom_140_X2_isValid : GoodIn W_X2_worksFrom (wsV RX2 140 RX2 yX2_isValid W_X2_isValid) := goodIn_app (goodIn_sub (List.forall_mem_cons.mpr ⟨List.mem_cons_of_mem _ (List.mem_append_left _ (List.mem_of_getElem? (i := 2) rfl)), List.forall_mem_cons.mpr ⟨List.mem_cons_of_mem _ (List.mem_append_left _ (List.mem_of_getElem? (i := 3) rfl)), List.forall_mem_cons.mpr ⟨List.mem_cons_of_mem _ (List.mem_append_left _ (List.mem_of_getElem? (i := 4) rfl)), List.forall_mem_cons.mpr ⟨List.mem_cons_of_mem _ (List.mem_append_left _ (List.mem_of_getElem? (i := 5) rfl)), fun _ h => absurd h List.not_mem_nil⟩⟩⟩⟩) (by decide +kernel)) gw_X2_worksFrom_X2_isValid
theorem gw_X3_fill_X3_fillCell : GoodIn W_X3_fill W_X3_fillCell := fun w h => ⟨List.mem_cons_of_mem _ (List.mem_append_right _ (List.mem_append_right _ (h))), (wI_X3_fillCell w h).2⟩
theorem gc_X3_fill_24_X3_fillCell : GoodIn W_X3_fill (wsV RX3 24 RX3 yX3_fillCell W_X3_fillCell) := goodIn_app (goodIn_sub (List.forall_mem_cons.mpr ⟨List.mem_cons_of_mem _ (List.mem_append_left _ (List.mem_of_getElem? (i := 2) rfl)), List.forall_mem_cons.mpr ⟨List.mem_cons_of_mem _ (List.mem_append_left _ (List.mem_of_getElem? (i := 3) rfl)), List.forall_mem_cons.mpr ⟨List.mem_cons_of_mem _ (List.mem_append_left _ (List.mem_of_getElem? (i := 4) rfl)), List.forall_mem_cons.mpr ⟨List.mem_cons_of_mem _ (List.mem_append_left _ (List.mem_of_getElem? (i := 5) rfl)), fun _ h => absurd h List.not_mem_nil⟩⟩⟩⟩) (by decide +kernel)) gw_X3_fill_X3_fillCell
theorem gw_X3_fillCell_X3_mix : GoodIn W_X3_fillCell W_X3_mix := fun w h => ⟨List.mem_cons_of_mem _ (List.mem_append_right _ (List.mem_append_right _ (List.mem_append_right _ (h)))), (wI_X3_mix w h).2⟩
theorem gc_X3_fillCell_33_X3_mix : GoodIn W_X3_fillCell (va_wsS RX3 33 yX3_mix W_X3_mix) := goodIn_app (goodIn_sub (List.forall_mem_cons.mpr ⟨List.mem_cons_of_mem _ (List.mem_append_left _ (List.mem_of_getElem? (i := 1) rfl)), List.forall_mem_cons.mpr ⟨List.mem_cons_of_mem _ (List.mem_append_left _ (List.mem_of_getElem? (i := 2) rfl)), List.forall_mem_cons.mpr ⟨List.mem_cons_of_mem _ (List.mem_append_left _ (List.mem_of_getElem? (i := 3) rfl)), fun _ h => absurd h List.not_mem_nil⟩⟩⟩) (by decide +kernel)) gw_X3_fillCell_X3_mix
theorem gw_X3_mix_X3_later : GoodIn W_X3_mix W_X3_later := fun w h => ⟨List.mem_cons_of_mem _ (List.mem_append_right _ (h)), (wI_X3_later w h).2⟩
theorem gc_X3_mix_49_X3_later : GoodIn W_X3_mix (va_wsS RX3 49 yX3_later W_X3_later) := goodIn_app (goodIn_sub (List.forall_mem_cons.mpr ⟨List.mem_cons_of_mem _ (List.mem_append_left _ (List.mem_of_getElem? (i := 7) rfl)), List.forall_mem_cons.mpr ⟨List.mem_cons_of_mem _ (List.mem_append_left _ (List.mem_of_getElem? (i := 8) rfl)), List.forall_mem_cons.mpr ⟨List.mem_cons_of_mem _ (List.mem_append_left _ (List.mem_of_getElem? (i := 9) rfl)), fun _ h => absurd h List.not_mem_nil⟩⟩⟩) (by decide +kernel)) gw_X3_mix_X3_later
