theorem dX2_breaksFrom_0 : decode cX2_breaksFrom 0 = .ok (.aload_n 0, 1) := by decide +kernel
theorem dX2_breaksFrom_1 : decode cX2_breaksFrom 1 = .ok (.iload_n 1, 1) := by decide +kernel
theorem dX2_breaksFrom_2 : decode cX2_breaksFrom 2 = .ok (.invokevirtual 140, 3) := by decide +kernel
theorem dX2_breaksFrom_5 : decode cX2_breaksFrom 5 = .ok (.ifCond .ne 5, 3) := by decide +kernel
theorem dX2_breaksFrom_8 : decode cX2_breaksFrom 8 = .ok (.iconst 0, 1) := by decide +kernel
theorem dX2_breaksFrom_9 : decode cX2_breaksFrom 9 = .ok (.ireturn, 1) := by decide +kernel
theorem dX2_breaksFrom_10 : decode cX2_breaksFrom 10 = .ok (.aload_n 0, 1) := by decide +kernel
theorem dX2_breaksFrom_11 : decode cX2_breaksFrom 11 = .ok (.iload_n 1, 1) := by decide +kernel
theorem dX2_breaksFrom_12 : decode cX2_breaksFrom 12 = .ok (.aload_n 0, 1) := by decide +kernel
theorem dX2_breaksFrom_13 : decode cX2_breaksFrom 13 = .ok (.iload_n 1, 1) := by decide +kernel
theorem dX2_breaksFrom_14 : decode cX2_breaksFrom 14 = .ok (.iload_n 2, 1) := by decide +kernel
theorem dX2_breaksFrom_15 : decode cX2_breaksFrom 15 = .ok (.iconst 0, 1) := by decide +kernel
theorem dX2_breaksFrom_16 : decode cX2_breaksFrom 16 = .ok (.invokevirtual 149, 3) := by decide +kernel
theorem dX2_breaksFrom_19 : decode cX2_breaksFrom 19 = .ok (.aload_n 0, 1) := by decide +kernel
theorem dX2_breaksFrom_20 : decode cX2_breaksFrom 20 = .ok (.iload_n 1, 1) := by decide +kernel
theorem dX2_breaksFrom_21 : decode cX2_breaksFrom 21 = .ok (.iload_n 2, 1) := by decide +kernel
theorem dX2_breaksFrom_22 : decode cX2_breaksFrom 22 = .ok (.aload_n 0, 1) := by decide +kernel
theorem dX2_breaksFrom_23 : decode cX2_breaksFrom 23 = .ok (.getfield 22, 3) := by decide +kernel
theorem dX2_breaksFrom_26 : decode cX2_breaksFrom 26 = .ok (.invokevirtual 149, 3) := by decide +kernel
theorem dX2_breaksFrom_29 : decode cX2_breaksFrom 29 = .ok (.invokevirtual 159, 3) := by decide +kernel
theorem dX2_breaksFrom_32 : decode cX2_breaksFrom 32 = .ok (.iconst 0, 1) := by decide +kernel
theorem dX2_breaksFrom_33 : decode cX2_breaksFrom 33 = .ok (.istore_n 3, 1) := by decide +kernel
theorem dX2_breaksFrom_34 : decode cX2_breaksFrom 34 = .ok (.iconst 0, 1) := by decide +kernel
theorem dX2_breaksFrom_35 : decode cX2_breaksFrom 35 = .ok (.istore 4, 2) := by decide +kernel
theorem dX2_breaksFrom_37 : decode cX2_breaksFrom 37 = .ok (.iload 4, 2) := by decide +kernel
theorem dX2_breaksFrom_39 : decode cX2_breaksFrom 39 = .ok (.aload_n 0, 1) := by decide +kernel
theorem dX2_breaksFrom_40 : decode cX2_breaksFrom 40 = .ok (.getfield 53, 3) := by decide +kernel
theorem dX2_breaksFrom_43 : decode cX2_breaksFrom 43 = .ok (.getfield 117, 3) := by decide +kernel
theorem dX2_breaksFrom_46 : decode cX2_breaksFrom 46 = .ok (.if_icmp .ge 22, 3) := by decide +kernel
theorem dX2_breaksFrom_49 : decode cX2_breaksFrom 49 = .ok (.iload_n 3, 1) := by decide +kernel
theorem dX2_breaksFrom_50 : decode cX2_breaksFrom 50 = .ok (.aload_n 0, 1) := by decide +kernel
theorem dX2_breaksFrom_51 : decode cX2_breaksFrom 51 = .ok (.getfield 33, 3) := by decide +kernel
theorem dX2_breaksFrom_54 : decode cX2_breaksFrom 54 = .ok (.iload 4, 2) := by decide +kernel
theorem dX2_breaksFrom_56 : decode cX2_breaksFrom 56 = .ok (.laload, 1) := by decide +kernel
theorem dX2_breaksFrom_57 : decode cX2_breaksFrom 57 = .ok (.invokestatic 87, 3) := by decide +kernel
theorem dX2_breaksFrom_60 : decode cX2_breaksFrom 60 = .ok (.iadd, 1) := by decide +kernel
theorem dX2_breaksFrom_61 : decode cX2_breaksFrom 61 = .ok (.istore_n 3, 1) := by decide +kernel
theorem dX2_breaksFrom_62 : decode cX2_breaksFrom 62 = .ok (.iinc 4 1, 3) := by decide +kernel
theorem dX2_breaksFrom_65 : decode cX2_breaksFrom 65 = .ok (.goto (-28), 3) := by decide +kernel
theorem dX2_breaksFrom_68 : decode cX2_breaksFrom 68 = .ok (.iload_n 3, 1) := by decide +kernel
theorem dX2_breaksFrom_69 : decode cX2_breaksFrom 69 = .ok (.ireturn, 1) := by decide +kernel
theorem dX2_countHits_0 : decode cX2_countHits 0 = .ok (.iconst 0, 1) := by decide +kernel
theorem dX2_countHits_1 : decode cX2_countHits 1 = .ok (.istore_n 2, 1) := by decide +kernel
theorem dX2_countHits_2 : decode cX2_countHits 2 = .ok (.iload_n 2, 1) := by decide +kernel
theorem dX2_countHits_3 : decode cX2_countHits 3 = .ok (.iconst 5, 1) := by decide +kernel
theorem dX2_countHits_4 : decode cX2_countHits 4 = .ok (.if_icmp .ge 16, 3) := by decide +kernel
theorem dX2_countHits_7 : decode cX2_countHits 7 = .ok (.aload_n 0, 1) := by decide +kernel
theorem dX2_countHits_8 : decode cX2_countHits 8 = .ok (.getfield 43, 3) := by decide +kernel
theorem dX2_countHits_11 : decode cX2_countHits 11 = .ok (.iload_n 2, 1) := by decide +kernel
theorem dX2_countHits_12 : decode cX2_countHits 12 = .ok (.iconst 0, 1) := by decide +kernel
theorem dX2_countHits_13 : decode cX2_countHits 13 = .ok (.iastore, 1) := by decide +kernel
theorem dX2_countHits_14 : decode cX2_countHits 14 = .ok (.iinc 2 1, 3) := by decide +kernel
theorem dX2_countHits_17 : decode cX2_countHits 17 = .ok (.goto (-15), 3) := by decide +kernel
theorem dX2_countHits_20 : decode cX2_countHits 20 = .ok (.iconst 0, 1) := by decide +kernel
theorem dX2_countHits_21 : decode cX2_countHits 21 = .ok (.istore_n 2, 1) := by decide +kernel
theorem dX2_countHits_22 : decode cX2_countHits 22 = .ok (.iload_n 2, 1) := by decide +kernel
theorem dX2_countHits_23 : decode cX2_countHits 23 = .ok (.aload_n 0, 1) := by decide +kernel
theorem dX2_countHits_24 : decode cX2_countHits 24 = .ok (.getfield 53, 3) := by decide +kernel
theorem dX2_countHits_27 : decode cX2_countHits 27 = .ok (.getfield 117, 3) := by decide +kernel
theorem dX2_countHits_30 : decode cX2_countHits 30 = .ok (.if_icmp .ge 23, 3) := by decide +kernel
theorem dX2_countHits_33 : decode cX2_countHits 33 = .ok (.aload_n 0, 1) := by decide +kernel
theorem dX2_countHits_34 : decode cX2_countHits 34 = .ok (.iload_n 2, 1) := by decide +kernel
theorem dX2_countHits_35 : decode cX2_countHits 35 = .ok (.iload_n 1, 1) := by decide +kernel
theorem dX2_countHits_36 : decode cX2_countHits 36 = .ok (.invokevirtual 156, 3) := by decide +kernel
theorem dX2_countHits_39 : decode cX2_countHits 39 = .ok (.ifCond .le 8, 3) := by decide +kernel
theorem dX2_countHits_42 : decode cX2_countHits 42 = .ok (.aload_n 0, 1) := by decide +kernel
theorem dX2_countHits_43 : decode cX2_countHits 43 = .ok (.iload_n 2, 1) := by decide +kernel
theorem dX2_countHits_44 : decode cX2_countHits 44 = .ok (.invokevirtual 163, 3) := by decide +kernel
theorem dX2_countHits_47 : decode cX2_countHits 47 = .ok (.iinc 2 1, 3) := by decide +kernel
theorem dX2_countHits_50 : decode cX2_countHits 50 = .ok (.goto (-28), 3) := by decide +kernel
theorem dX2_countHits_53 : decode cX2_countHits 53 = .ok (.return_, 1) := by decide +kernel
theorem dX2_countHitsFrom_0 : decode cX2_countHitsFrom 0 = .ok (.iconst 0, 1) := by decide +kernel
theorem dX2_countHitsFrom_1 : decode cX2_countHitsFrom 1 = .ok (.istore_n 2, 1) := by decide +kernel
theorem dX2_countHitsFrom_2 : decode cX2_countHitsFrom 2 = .ok (.iload_n 2, 1) := by decide +kernel
theorem dX2_countHitsFrom_3 : decode cX2_countHitsFrom 3 = .ok (.aload_n 0, 1) := by decide +kernel
theorem dX2_countHitsFrom_4 : decode cX2_countHitsFrom 4 = .ok (.getfield 53, 3) := by decide +kernel
theorem dX2_countHitsFrom_7 : decode cX2_countHitsFrom 7 = .ok (.getfield 117, 3) := by decide +kernel
theorem dX2_countHitsFrom_10 : decode cX2_countHitsFrom 10 = .ok (.if_icmp .ge 54, 3) := by decide +kernel
theorem dX2_countHitsFrom_13 : decode cX2_countHitsFrom 13 = .ok (.iload_n 2, 1) := by decide +kernel
theorem dX2_countHitsFrom_14 : decode cX2_countHitsFrom 14 = .ok (.istore_n 3, 1) := by decide +kernel
theorem dX2_countHitsFrom_15 : decode cX2_countHitsFrom 15 = .ok (.iload_n 3, 1) := by decide +kernel
theorem dX2_countHitsFrom_16 : decode cX2_countHitsFrom 16 = .ok (.aload_n 0, 1) := by decide +kernel
theorem dX2_countHitsFrom_17 : decode cX2_countHitsFrom 17 = .ok (.getfield 53, 3) := by decide +kernel
theorem dX2_countHitsFrom_20 : decode cX2_countHitsFrom 20 = .ok (.getfield 117, 3) := by decide +kernel
theorem dX2_countHitsFrom_23 : decode cX2_countHitsFrom 23 = .ok (.if_icmp .ge 35, 3) := by decide +kernel
theorem dX2_countHitsFrom_26 : decode cX2_countHitsFrom 26 = .ok (.aload_n 0, 1) := by decide +kernel
theorem dX2_countHitsFrom_27 : decode cX2_countHitsFrom 27 = .ok (.getfield 33, 3) := by decide +kernel
theorem dX2_countHitsFrom_30 : decode cX2_countHitsFrom 30 = .ok (.iload_n 2, 1) := by decide +kernel
theorem dX2_countHitsFrom_31 : decode cX2_countHitsFrom 31 = .ok (.laload, 1) := by decide +kernel
theorem dX2_countHitsFrom_32 : decode cX2_countHitsFrom 32 = .ok (.iload_n 3, 1) := by decide +kernel
theorem dX2_countHitsFrom_33 : decode cX2_countHitsFrom 33 = .ok (.lushr, 1) := by decide +kernel
theorem dX2_countHitsFrom_34 : decode cX2_countHitsFrom 34 = .ok (.lconst 1, 1) := by decide +kernel
theorem dX2_countHitsFrom_35 : decode cX2_countHitsFrom 35 = .ok (.land, 1) := by decide +kernel
theorem dX2_countHitsFrom_36 : decode cX2_countHitsFrom 36 = .ok (.lconst 0, 1) := by decide +kernel
theorem dX2_countHitsFrom_37 : decode cX2_countHitsFrom 37 = .ok (.lcmp, 1) := by decide +kernel
theorem dX2_countHitsFrom_38 : decode cX2_countHitsFrom 38 = .ok (.ifCond .eq 14, 3) := by decide +kernel
theorem dX2_countHitsFrom_41 : decode cX2_countHitsFrom 41 = .ok (.aload_n 0, 1) := by decide +kernel
theorem dX2_countHitsFrom_42 : decode cX2_countHitsFrom 42 = .ok (.aload_n 0, 1) := by decide +kernel
theorem dX2_countHitsFrom_43 : decode cX2_countHitsFrom 43 = .ok (.iload_n 1, 1) := by decide +kernel
theorem dX2_countHitsFrom_44 : decode cX2_countHitsFrom 44 = .ok (.iload_n 2, 1) := by decide +kernel
theorem dX2_countHitsFrom_45 : decode cX2_countHitsFrom 45 = .ok (.iload_n 3, 1) := by decide +kernel
theorem dX2_countHitsFrom_46 : decode cX2_countHitsFrom 46 = .ok (.invokevirtual 118, 3) := by decide +kernel
theorem dX2_countHitsFrom_49 : decode cX2_countHitsFrom 49 = .ok (.invokevirtual 167, 3) := by decide +kernel
theorem dX2_countHitsFrom_52 : decode cX2_countHitsFrom 52 = .ok (.iinc 3 1, 3) := by decide +kernel
theorem dX2_countHitsFrom_55 : decode cX2_countHitsFrom 55 = .ok (.goto (-40), 3) := by decide +kernel
theorem dX2_countHitsFrom_58 : decode cX2_countHitsFrom 58 = .ok (.iinc 2 1, 3) := by decide +kernel
theorem dX2_countHitsFrom_61 : decode cX2_countHitsFrom 61 = .ok (.goto (-59), 3) := by decide +kernel
theorem dX2_countHitsFrom_64 : decode cX2_countHitsFrom 64 = .ok (.return_, 1) := by decide +kernel
theorem dX2_countHitsOf_0 : decode cX2_countHitsOf 0 = .ok (.iconst 0, 1) := by decide +kernel
theorem dX2_countHitsOf_1 : decode cX2_countHitsOf 1 = .ok (.istore_n 2, 1) := by decide +kernel
theorem dX2_countHitsOf_2 : decode cX2_countHitsOf 2 = .ok (.iload_n 2, 1) := by decide +kernel
theorem dX2_countHitsOf_3 : decode cX2_countHitsOf 3 = .ok (.aload_n 0, 1) := by decide +kernel
theorem dX2_countHitsOf_4 : decode cX2_countHitsOf 4 = .ok (.getfield 49, 3) := by decide +kernel
theorem dX2_countHitsOf_7 : decode cX2_countHitsOf 7 = .ok (.getfield 81, 3) := by decide +kernel
theorem dX2_countHitsOf_10 : decode cX2_countHitsOf 10 = .ok (.if_icmp .ge 28, 3) := by decide +kernel
theorem dX2_countHitsOf_13 : decode cX2_countHitsOf 13 = .ok (.aload_n 0, 1) := by decide +kernel
theorem dX2_countHitsOf_14 : decode cX2_countHitsOf 14 = .ok (.iload_n 2, 1) := by decide +kernel
theorem dX2_countHitsOf_15 : decode cX2_countHitsOf 15 = .ok (.iload_n 1, 1) := by decide +kernel
theorem dX2_countHitsOf_16 : decode cX2_countHitsOf 16 = .ok (.invokevirtual 124, 3) := by decide +kernel
theorem dX2_countHitsOf_19 : decode cX2_countHitsOf 19 = .ok (.ifCond .eq 13, 3) := by decide +kernel
theorem dX2_countHitsOf_22 : decode cX2_countHitsOf 22 = .ok (.aload_n 0, 1) := by decide +kernel
theorem dX2_countHitsOf_23 : decode cX2_countHitsOf 23 = .ok (.getfield 43, 3) := by decide +kernel
theorem dX2_countHitsOf_26 : decode cX2_countHitsOf 26 = .ok (.iload_n 2, 1) := by decide +kernel
theorem dX2_countHitsOf_27 : decode cX2_countHitsOf 27 = .ok (.dup2, 1) := by decide +kernel
theorem dX2_countHitsOf_28 : decode cX2_countHitsOf 28 = .ok (.iaload, 1) := by decide +kernel
theorem dX2_countHitsOf_29 : decode cX2_countHitsOf 29 = .ok (.iconst 1, 1) := by decide +kernel
theorem dX2_countHitsOf_30 : decode cX2_countHitsOf 30 = .ok (.iadd, 1) := by decide +kernel
theorem dX2_countHitsOf_31 : decode cX2_countHitsOf 31 = .ok (.iastore, 1) := by decide +kernel
theorem dX2_countHitsOf_32 : decode cX2_countHitsOf 32 = .ok (.iinc 2 1, 3) := by decide +kernel
theorem dX2_countHitsOf_35 : decode cX2_countHitsOf 35 = .ok (.goto (-33), 3) := by decide +kernel
theorem dX2_countHitsOf_38 : decode cX2_countHitsOf 38 = .ok (.return_, 1) := by decide +kernel
theorem dX2_depthOf_0 : decode cX2_depthOf 0 = .ok (.iconst 0, 1) := by decide +kernel
theorem dX2_depthOf_1 : decode cX2_depthOf 1 = .ok (.istore_n 2, 1) := by decide +kernel
theorem dX2_depthOf_2 : decode cX2_depthOf 2 = .ok (.iload_n 2, 1) := by decide +kernel
theorem dX2_depthOf_3 : decode cX2_depthOf 3 = .ok (.iconst 3, 1) := by decide +kernel
theorem dX2_depthOf_4 : decode cX2_depthOf 4 = .ok (.if_icmp .ge 26, 3) := by decide +kernel
theorem dX2_depthOf_7 : decode cX2_depthOf 7 = .ok (.aload_n 0, 1) := by decide +kernel
theorem dX2_depthOf_8 : decode cX2_depthOf 8 = .ok (.getfield 40, 3) := by decide +kernel
theorem dX2_depthOf_11 : decode cX2_depthOf 11 = .ok (.iload_n 2, 1) := by decide +kernel
theorem dX2_depthOf_12 : decode cX2_depthOf 12 = .ok (.laload, 1) := by decide +kernel
theorem dX2_depthOf_13 : decode cX2_depthOf 13 = .ok (.iload_n 1, 1) := by decide +kernel
theorem dX2_depthOf_14 : decode cX2_depthOf 14 = .ok (.lushr, 1) := by decide +kernel
theorem dX2_depthOf_15 : decode cX2_depthOf 15 = .ok (.lconst 1, 1) := by decide +kernel
theorem dX2_depthOf_16 : decode cX2_depthOf 16 = .ok (.land, 1) := by decide +kernel
theorem dX2_depthOf_17 : decode cX2_depthOf 17 = .ok (.lconst 0, 1) := by decide +kernel
theorem dX2_depthOf_18 : decode cX2_depthOf 18 = .ok (.lcmp, 1) := by decide +kernel
theorem dX2_depthOf_19 : decode cX2_depthOf 19 = .ok (.ifCond .eq 5, 3) := by decide +kernel
theorem dX2_depthOf_22 : decode cX2_depthOf 22 = .ok (.iload_n 2, 1) := by decide +kernel
theorem dX2_depthOf_23 : decode cX2_depthOf 23 = .ok (.ireturn, 1) := by decide +kernel
theorem dX2_depthOf_24 : decode cX2_depthOf 24 = .ok (.iinc 2 1, 3) := by decide +kernel
theorem dX2_depthOf_27 : decode cX2_depthOf 27 = .ok (.goto (-25), 3) := by decide +kernel
theorem dX2_depthOf_30 : decode cX2_depthOf 30 = .ok (.iconst 3, 1) := by decide +kernel
theorem dX2_depthOf_31 : decode cX2_depthOf 31 = .ok (.ireturn, 1) := by decide +kernel
theorem dX2_findSmallest_0 : decode cX2_findSmallest 0 = .ok (.aload_n 0, 1) := by decide +kernel
theorem dX2_findSmallest_1 : decode cX2_findSmallest 1 = .ok (.getfield 46, 3) := by decide +kernel
theorem dX2_findSmallest_4 : decode cX2_findSmallest 4 = .ok (.iconst 4, 1) := by decide +kernel
theorem dX2_findSmallest_5 : decode cX2_findSmallest 5 = .ok (.bipush 7, 2) := by decide +kernel
theorem dX2_findSmallest_7 : decode cX2_findSmallest 7 = .ok (.iastore, 1) := by decide +kernel
theorem dX2_findSmallest_8 : decode cX2_findSmallest 8 = .ok (.iconst 0, 1) := by decide +kernel
theorem dX2_findSmallest_9 : decode cX2_findSmallest 9 = .ok (.istore_n 2, 1) := by decide +kernel
theorem dX2_findSmallest_10 : decode cX2_findSmallest 10 = .ok (.iload_n 2, 1) := by decide +kernel
theorem dX2_findSmallest_11 : decode cX2_findSmallest 11 = .ok (.aload_n 0, 1) := by decide +kernel
theorem dX2_findSmallest_12 : decode cX2_findSmallest 12 = .ok (.getfield 53, 3) := by decide +kernel
theorem dX2_findSmallest_15 : decode cX2_findSmallest 15 = .ok (.getfield 117, 3) := by decide +kernel
theorem dX2_findSmallest_18 : decode cX2_findSmallest 18 = .ok (.if_icmp .ge 49, 3) := by decide +kernel
theorem dX2_findSmallest_21 : decode cX2_findSmallest 21 = .ok (.aload_n 0, 1) := by decide +kernel
theorem dX2_findSmallest_22 : decode cX2_findSmallest 22 = .ok (.iload_n 2, 1) := by decide +kernel
theorem dX2_findSmallest_23 : decode cX2_findSmallest 23 = .ok (.iload_n 1, 1) := by decide +kernel
theorem dX2_findSmallest_24 : decode cX2_findSmallest 24 = .ok (.invokevirtual 156, 3) := by decide +kernel
theorem dX2_findSmallest_27 : decode cX2_findSmallest 27 = .ok (.ifCond .le 34, 3) := by decide +kernel
theorem dX2_findSmallest_30 : decode cX2_findSmallest 30 = .ok (.iconst 0, 1) := by decide +kernel
theorem dX2_findSmallest_31 : decode cX2_findSmallest 31 = .ok (.istore_n 3, 1) := by decide +kernel
theorem dX2_findSmallest_32 : decode cX2_findSmallest 32 = .ok (.iload_n 3, 1) := by decide +kernel
theorem dX2_findSmallest_33 : decode cX2_findSmallest 33 = .ok (.iconst 3, 1) := by decide +kernel
theorem dX2_findSmallest_34 : decode cX2_findSmallest 34 = .ok (.if_icmp .ge 22, 3) := by decide +kernel
theorem dX2_findSmallest_37 : decode cX2_findSmallest 37 = .ok (.aload_n 0, 1) := by decide +kernel
theorem dX2_findSmallest_38 : decode cX2_findSmallest 38 = .ok (.getfield 40, 3) := by decide +kernel
theorem dX2_findSmallest_41 : decode cX2_findSmallest 41 = .ok (.iload_n 3, 1) := by decide +kernel
theorem dX2_findSmallest_42 : decode cX2_findSmallest 42 = .ok (.aload_n 0, 1) := by decide +kernel
theorem dX2_findSmallest_43 : decode cX2_findSmallest 43 = .ok (.iload_n 2, 1) := by decide +kernel
theorem dX2_findSmallest_44 : decode cX2_findSmallest 44 = .ok (.iload_n 3, 1) := by decide +kernel
theorem dX2_findSmallest_45 : decode cX2_findSmallest 45 = .ok (.iconst 0, 1) := by decide +kernel
theorem dX2_findSmallest_46 : decode cX2_findSmallest 46 = .ok (.invokevirtual 149, 3) := by decide +kernel
theorem dX2_findSmallest_49 : decode cX2_findSmallest 49 = .ok (.lastore, 1) := by decide +kernel
theorem dX2_findSmallest_50 : decode cX2_findSmallest 50 = .ok (.iinc 3 1, 3) := by decide +kernel
theorem dX2_findSmallest_53 : decode cX2_findSmallest 53 = .ok (.goto (-21), 3) := by decide +kernel
theorem dX2_findSmallest_56 : decode cX2_findSmallest 56 = .ok (.aload_n 0, 1) := by decide +kernel
theorem dX2_findSmallest_57 : decode cX2_findSmallest 57 = .ok (.iload_n 2, 1) := by decide +kernel
theorem dX2_findSmallest_58 : decode cX2_findSmallest 58 = .ok (.invokevirtual 170, 3) := by decide +kernel
theorem dX2_findSmallest_61 : decode cX2_findSmallest 61 = .ok (.iinc 2 1, 3) := by decide +kernel
theorem dX2_findSmallest_64 : decode cX2_findSmallest 64 = .ok (.goto (-54), 3) := by decide +kernel
theorem dX2_findSmallest_67 : decode cX2_findSmallest 67 = .ok (.aload_n 0, 1) := by decide +kernel
theorem dX2_findSmallest_68 : decode cX2_findSmallest 68 = .ok (.getfield 46, 3) := by decide +kernel
theorem dX2_findSmallest_71 : decode cX2_findSmallest 71 = .ok (.iconst 4, 1) := by decide +kernel
theorem dX2_findSmallest_72 : decode cX2_findSmallest 72 = .ok (.iaload, 1) := by decide +kernel
theorem dX2_findSmallest_73 : decode cX2_findSmallest 73 = .ok (.bipush 6, 2) := by decide +kernel
theorem dX2_findSmallest_75 : decode cX2_findSmallest 75 = .ok (.if_icmp .gt 7, 3) := by decide +kernel
theorem dX2_findSmallest_78 : decode cX2_findSmallest 78 = .ok (.iconst 1, 1) := by decide +kernel
theorem dX2_findSmallest_79 : decode cX2_findSmallest 79 = .ok (.goto 4, 3) := by decide +kernel
theorem dX2_findSmallest_82 : decode cX2_findSmallest 82 = .ok (.iconst 0, 1) := by decide +kernel
theorem dX2_findSmallest_83 : decode cX2_findSmallest 83 = .ok (.ireturn, 1) := by decide +kernel
theorem dX2_findSmallestFrom_0 : decode cX2_findSmallestFrom 0 = .ok (.iconst 0, 1) := by decide +kernel
theorem dX2_findSmallestFrom_1 : decode cX2_findSmallestFrom 1 = .ok (.istore_n 2, 1) := by decide +kernel
theorem dX2_findSmallestFrom_2 : decode cX2_findSmallestFrom 2 = .ok (.iload_n 2, 1) := by decide +kernel
theorem dX2_findSmallestFrom_3 : decode cX2_findSmallestFrom 3 = .ok (.aload_n 0, 1) := by decide +kernel
theorem dX2_findSmallestFrom_4 : decode cX2_findSmallestFrom 4 = .ok (.getfield 53, 3) := by decide +kernel
theorem dX2_findSmallestFrom_7 : decode cX2_findSmallestFrom 7 = .ok (.getfield 117, 3) := by decide +kernel
theorem dX2_findSmallestFrom_10 : decode cX2_findSmallestFrom 10 = .ok (.if_icmp .ge 109, 3) := by decide +kernel
theorem dX2_findSmallestFrom_13 : decode cX2_findSmallestFrom 13 = .ok (.iload_n 2, 1) := by decide +kernel
theorem dX2_findSmallestFrom_14 : decode cX2_findSmallestFrom 14 = .ok (.istore_n 3, 1) := by decide +kernel
theorem dX2_findSmallestFrom_15 : decode cX2_findSmallestFrom 15 = .ok (.iload_n 3, 1) := by decide +kernel
theorem dX2_findSmallestFrom_16 : decode cX2_findSmallestFrom 16 = .ok (.aload_n 0, 1) := by decide +kernel
theorem dX2_findSmallestFrom_17 : decode cX2_findSmallestFrom 17 = .ok (.getfield 53, 3) := by decide +kernel
theorem dX2_findSmallestFrom_20 : decode cX2_findSmallestFrom 20 = .ok (.getfield 117, 3) := by decide +kernel
theorem dX2_findSmallestFrom_23 : decode cX2_findSmallestFrom 23 = .ok (.if_icmp .ge 90, 3) := by decide +kernel
theorem dX2_findSmallestFrom_26 : decode cX2_findSmallestFrom 26 = .ok (.aload_n 0, 1) := by decide +kernel
theorem dX2_findSmallestFrom_27 : decode cX2_findSmallestFrom 27 = .ok (.getfield 33, 3) := by decide +kernel
theorem dX2_findSmallestFrom_30 : decode cX2_findSmallestFrom 30 = .ok (.iload_n 2, 1) := by decide +kernel
theorem dX2_findSmallestFrom_31 : decode cX2_findSmallestFrom 31 = .ok (.laload, 1) := by decide +kernel
theorem dX2_findSmallestFrom_32 : decode cX2_findSmallestFrom 32 = .ok (.iload_n 3, 1) := by decide +kernel
theorem dX2_findSmallestFrom_33 : decode cX2_findSmallestFrom 33 = .ok (.lushr, 1) := by decide +kernel
theorem dX2_findSmallestFrom_34 : decode cX2_findSmallestFrom 34 = .ok (.lconst 1, 1) := by decide +kernel
theorem dX2_findSmallestFrom_35 : decode cX2_findSmallestFrom 35 = .ok (.land, 1) := by decide +kernel
theorem dX2_findSmallestFrom_36 : decode cX2_findSmallestFrom 36 = .ok (.lconst 0, 1) := by decide +kernel
theorem dX2_findSmallestFrom_37 : decode cX2_findSmallestFrom 37 = .ok (.lcmp, 1) := by decide +kernel
theorem dX2_findSmallestFrom_38 : decode cX2_findSmallestFrom 38 = .ok (.ifCond .eq 69, 3) := by decide +kernel
theorem dX2_findSmallestFrom_41 : decode cX2_findSmallestFrom 41 = .ok (.aload_n 0, 1) := by decide +kernel
theorem dX2_findSmallestFrom_42 : decode cX2_findSmallestFrom 42 = .ok (.iload_n 2, 1) := by decide +kernel
theorem dX2_findSmallestFrom_43 : decode cX2_findSmallestFrom 43 = .ok (.invokevirtual 173, 3) := by decide +kernel
theorem dX2_findSmallestFrom_46 : decode cX2_findSmallestFrom 46 = .ok (.aload_n 0, 1) := by decide +kernel
theorem dX2_findSmallestFrom_47 : decode cX2_findSmallestFrom 47 = .ok (.iload_n 3, 1) := by decide +kernel
theorem dX2_findSmallestFrom_48 : decode cX2_findSmallestFrom 48 = .ok (.invokevirtual 173, 3) := by decide +kernel
theorem dX2_findSmallestFrom_51 : decode cX2_findSmallestFrom 51 = .ok (.iadd, 1) := by decide +kernel
theorem dX2_findSmallestFrom_52 : decode cX2_findSmallestFrom 52 = .ok (.istore 4, 2) := by decide +kernel
theorem dX2_findSmallestFrom_54 : decode cX2_findSmallestFrom 54 = .ok (.iload 4, 2) := by decide +kernel
theorem dX2_findSmallestFrom_56 : decode cX2_findSmallestFrom 56 = .ok (.aload_n 0, 1) := by decide +kernel
theorem dX2_findSmallestFrom_57 : decode cX2_findSmallestFrom 57 = .ok (.getfield 46, 3) := by decide +kernel
theorem dX2_findSmallestFrom_60 : decode cX2_findSmallestFrom 60 = .ok (.iconst 4, 1) := by decide +kernel
theorem dX2_findSmallestFrom_61 : decode cX2_findSmallestFrom 61 = .ok (.iaload, 1) := by decide +kernel
theorem dX2_findSmallestFrom_62 : decode cX2_findSmallestFrom 62 = .ok (.if_icmp .ge 45, 3) := by decide +kernel
theorem dX2_findSmallestFrom_65 : decode cX2_findSmallestFrom 65 = .ok (.aload_n 0, 1) := by decide +kernel
theorem dX2_findSmallestFrom_66 : decode cX2_findSmallestFrom 66 = .ok (.getfield 46, 3) := by decide +kernel
theorem dX2_findSmallestFrom_69 : decode cX2_findSmallestFrom 69 = .ok (.iconst 0, 1) := by decide +kernel
theorem dX2_findSmallestFrom_70 : decode cX2_findSmallestFrom 70 = .ok (.iload_n 1, 1) := by decide +kernel
theorem dX2_findSmallestFrom_71 : decode cX2_findSmallestFrom 71 = .ok (.iastore, 1) := by decide +kernel
theorem dX2_findSmallestFrom_72 : decode cX2_findSmallestFrom 72 = .ok (.aload_n 0, 1) := by decide +kernel
theorem dX2_findSmallestFrom_73 : decode cX2_findSmallestFrom 73 = .ok (.getfield 46, 3) := by decide +kernel
theorem dX2_findSmallestFrom_76 : decode cX2_findSmallestFrom 76 = .ok (.iconst 1, 1) := by decide +kernel
theorem dX2_findSmallestFrom_77 : decode cX2_findSmallestFrom 77 = .ok (.iload_n 2, 1) := by decide +kernel
theorem dX2_findSmallestFrom_78 : decode cX2_findSmallestFrom 78 = .ok (.iastore, 1) := by decide +kernel
theorem dX2_findSmallestFrom_79 : decode cX2_findSmallestFrom 79 = .ok (.aload_n 0, 1) := by decide +kernel
theorem dX2_findSmallestFrom_80 : decode cX2_findSmallestFrom 80 = .ok (.getfield 46, 3) := by decide +kernel
theorem dX2_findSmallestFrom_83 : decode cX2_findSmallestFrom 83 = .ok (.iconst 2, 1) := by decide +kernel
theorem dX2_findSmallestFrom_84 : decode cX2_findSmallestFrom 84 = .ok (.iload_n 3, 1) := by decide +kernel
theorem dX2_findSmallestFrom_85 : decode cX2_findSmallestFrom 85 = .ok (.iastore, 1) := by decide +kernel
theorem dX2_findSmallestFrom_86 : decode cX2_findSmallestFrom 86 = .ok (.aload_n 0, 1) := by decide +kernel
theorem dX2_findSmallestFrom_87 : decode cX2_findSmallestFrom 87 = .ok (.getfield 46, 3) := by decide +kernel
theorem dX2_findSmallestFrom_90 : decode cX2_findSmallestFrom 90 = .ok (.iconst 3, 1) := by decide +kernel
theorem dX2_findSmallestFrom_91 : decode cX2_findSmallestFrom 91 = .ok (.aload_n 0, 1) := by decide +kernel
theorem dX2_findSmallestFrom_92 : decode cX2_findSmallestFrom 92 = .ok (.iload_n 1, 1) := by decide +kernel
theorem dX2_findSmallestFrom_93 : decode cX2_findSmallestFrom 93 = .ok (.iload_n 2, 1) := by decide +kernel
theorem dX2_findSmallestFrom_94 : decode cX2_findSmallestFrom 94 = .ok (.iload_n 3, 1) := by decide +kernel
theorem dX2_findSmallestFrom_95 : decode cX2_findSmallestFrom 95 = .ok (.invokevirtual 118, 3) := by decide +kernel
theorem dX2_findSmallestFrom_98 : decode cX2_findSmallestFrom 98 = .ok (.iastore, 1) := by decide +kernel
theorem dX2_findSmallestFrom_99 : decode cX2_findSmallestFrom 99 = .ok (.aload_n 0, 1) := by decide +kernel
theorem dX2_findSmallestFrom_100 : decode cX2_findSmallestFrom 100 = .ok (.getfield 46, 3) := by decide +kernel
theorem dX2_findSmallestFrom_103 : decode cX2_findSmallestFrom 103 = .ok (.iconst 4, 1) := by decide +kernel
theorem dX2_findSmallestFrom_104 : decode cX2_findSmallestFrom 104 = .ok (.iload 4, 2) := by decide +kernel
theorem dX2_findSmallestFrom_106 : decode cX2_findSmallestFrom 106 = .ok (.iastore, 1) := by decide +kernel
theorem dX2_findSmallestFrom_107 : decode cX2_findSmallestFrom 107 = .ok (.iinc 3 1, 3) := by decide +kernel
theorem dX2_findSmallestFrom_110 : decode cX2_findSmallestFrom 110 = .ok (.goto (-95), 3) := by decide +kernel
theorem dX2_findSmallestFrom_113 : decode cX2_findSmallestFrom 113 = .ok (.iinc 2 1, 3) := by decide +kernel
theorem dX2_findSmallestFrom_116 : decode cX2_findSmallestFrom 116 = .ok (.goto (-114), 3) := by decide +kernel
theorem dX2_findSmallestFrom_119 : decode cX2_findSmallestFrom 119 = .ok (.return_, 1) := by decide +kernel
theorem dX2_hasBreakAmong_0 : decode cX2_hasBreakAmong 0 = .ok (.iconst 0, 1) := by decide +kernel
theorem dX2_hasBreakAmong_1 : decode cX2_hasBreakAmong 1 = .ok (.istore_n 3, 1) := by decide +kernel
theorem dX2_hasBreakAmong_2 : decode cX2_hasBreakAmong 2 = .ok (.iload_n 3, 1) := by decide +kernel
theorem dX2_hasBreakAmong_3 : decode cX2_hasBreakAmong 3 = .ok (.aload_n 0, 1) := by decide +kernel
theorem dX2_hasBreakAmong_4 : decode cX2_hasBreakAmong 4 = .ok (.getfield 53, 3) := by decide +kernel
theorem dX2_hasBreakAmong_7 : decode cX2_hasBreakAmong 7 = .ok (.getfield 117, 3) := by decide +kernel
theorem dX2_hasBreakAmong_10 : decode cX2_hasBreakAmong 10 = .ok (.if_icmp .ge 47, 3) := by decide +kernel
theorem dX2_hasBreakAmong_13 : decode cX2_hasBreakAmong 13 = .ok (.lload_n 1, 1) := by decide +kernel
theorem dX2_hasBreakAmong_14 : decode cX2_hasBreakAmong 14 = .ok (.iload_n 3, 1) := by decide +kernel
theorem dX2_hasBreakAmong_15 : decode cX2_hasBreakAmong 15 = .ok (.lushr, 1) := by decide +kernel
theorem dX2_hasBreakAmong_16 : decode cX2_hasBreakAmong 16 = .ok (.lconst 1, 1) := by decide +kernel
theorem dX2_hasBreakAmong_17 : decode cX2_hasBreakAmong 17 = .ok (.land, 1) := by decide +kernel
theorem dX2_hasBreakAmong_18 : decode cX2_hasBreakAmong 18 = .ok (.lconst 0, 1) := by decide +kernel
theorem dX2_hasBreakAmong_19 : decode cX2_hasBreakAmong 19 = .ok (.lcmp, 1) := by decide +kernel
theorem dX2_hasBreakAmong_20 : decode cX2_hasBreakAmong 20 = .ok (.ifCond .eq 12, 3) := by decide +kernel
theorem dX2_hasBreakAmong_23 : decode cX2_hasBreakAmong 23 = .ok (.aload_n 0, 1) := by decide +kernel
theorem dX2_hasBreakAmong_24 : decode cX2_hasBreakAmong 24 = .ok (.getfield 33, 3) := by decide +kernel
theorem dX2_hasBreakAmong_27 : decode cX2_hasBreakAmong 27 = .ok (.iload_n 3, 1) := by decide +kernel
theorem dX2_hasBreakAmong_28 : decode cX2_hasBreakAmong 28 = .ok (.laload, 1) := by decide +kernel
theorem dX2_hasBreakAmong_29 : decode cX2_hasBreakAmong 29 = .ok (.goto 11, 3) := by decide +kernel
theorem dX2_hasBreakAmong_32 : decode cX2_hasBreakAmong 32 = .ok (.aload_n 0, 1) := by decide +kernel
theorem dX2_hasBreakAmong_33 : decode cX2_hasBreakAmong 33 = .ok (.getfield 33, 3) := by decide +kernel
theorem dX2_hasBreakAmong_36 : decode cX2_hasBreakAmong 36 = .ok (.iload_n 3, 1) := by decide +kernel
theorem dX2_hasBreakAmong_37 : decode cX2_hasBreakAmong 37 = .ok (.laload, 1) := by decide +kernel
theorem dX2_hasBreakAmong_38 : decode cX2_hasBreakAmong 38 = .ok (.lload_n 1, 1) := by decide +kernel
theorem dX2_hasBreakAmong_39 : decode cX2_hasBreakAmong 39 = .ok (.land, 1) := by decide +kernel
theorem dX2_hasBreakAmong_40 : decode cX2_hasBreakAmong 40 = .ok (.lstore 4, 2) := by decide +kernel
theorem dX2_hasBreakAmong_42 : decode cX2_hasBreakAmong 42 = .ok (.lload 4, 2) := by decide +kernel
theorem dX2_hasBreakAmong_44 : decode cX2_hasBreakAmong 44 = .ok (.lconst 0, 1) := by decide +kernel
theorem dX2_hasBreakAmong_45 : decode cX2_hasBreakAmong 45 = .ok (.lcmp, 1) := by decide +kernel
theorem dX2_hasBreakAmong_46 : decode cX2_hasBreakAmong 46 = .ok (.ifCond .eq 5, 3) := by decide +kernel
theorem dX2_hasBreakAmong_49 : decode cX2_hasBreakAmong 49 = .ok (.iconst 1, 1) := by decide +kernel
theorem dX2_hasBreakAmong_50 : decode cX2_hasBreakAmong 50 = .ok (.ireturn, 1) := by decide +kernel
theorem dX2_hasBreakAmong_51 : decode cX2_hasBreakAmong 51 = .ok (.iinc 3 1, 3) := by decide +kernel
theorem dX2_hasBreakAmong_54 : decode cX2_hasBreakAmong 54 = .ok (.goto (-52), 3) := by decide +kernel
theorem dX2_hasBreakAmong_57 : decode cX2_hasBreakAmong 57 = .ok (.iconst 0, 1) := by decide +kernel
theorem dX2_hasBreakAmong_58 : decode cX2_hasBreakAmong 58 = .ok (.ireturn, 1) := by decide +kernel
theorem dX2_isSafe_0 : decode cX2_isSafe 0 = .ok (.iconst 0, 1) := by decide +kernel
theorem dX2_isSafe_1 : decode cX2_isSafe 1 = .ok (.istore_n 2, 1) := by decide +kernel
theorem dX2_isSafe_2 : decode cX2_isSafe 2 = .ok (.iload_n 2, 1) := by decide +kernel
theorem dX2_isSafe_3 : decode cX2_isSafe 3 = .ok (.aload_n 0, 1) := by decide +kernel
theorem dX2_isSafe_4 : decode cX2_isSafe 4 = .ok (.getfield 53, 3) := by decide +kernel
theorem dX2_isSafe_7 : decode cX2_isSafe 7 = .ok (.getfield 117, 3) := by decide +kernel
theorem dX2_isSafe_10 : decode cX2_isSafe 10 = .ok (.if_icmp .ge 20, 3) := by decide +kernel
theorem dX2_isSafe_13 : decode cX2_isSafe 13 = .ok (.aload_n 0, 1) := by decide +kernel
theorem dX2_isSafe_14 : decode cX2_isSafe 14 = .ok (.iload_n 2, 1) := by decide +kernel
theorem dX2_isSafe_15 : decode cX2_isSafe 15 = .ok (.iload_n 1, 1) := by decide +kernel
theorem dX2_isSafe_16 : decode cX2_isSafe 16 = .ok (.invokevirtual 156, 3) := by decide +kernel
theorem dX2_isSafe_19 : decode cX2_isSafe 19 = .ok (.ifCond .le 5, 3) := by decide +kernel
theorem dX2_isSafe_22 : decode cX2_isSafe 22 = .ok (.iconst 0, 1) := by decide +kernel
theorem dX2_isSafe_23 : decode cX2_isSafe 23 = .ok (.ireturn, 1) := by decide +kernel
theorem dX2_isSafe_24 : decode cX2_isSafe 24 = .ok (.iinc 2 1, 3) := by decide +kernel
theorem dX2_isSafe_27 : decode cX2_isSafe 27 = .ok (.goto (-25), 3) := by decide +kernel
theorem dX2_isSafe_30 : decode cX2_isSafe 30 = .ok (.iconst 1, 1) := by decide +kernel
theorem dX2_isSafe_31 : decode cX2_isSafe 31 = .ok (.ireturn, 1) := by decide +kernel
theorem dX2_mark_0 : decode cX2_mark 0 = .ok (.aload_n 0, 1) := by decide +kernel
theorem dX2_mark_1 : decode cX2_mark 1 = .ok (.getfield 53, 3) := by decide +kernel
theorem dX2_mark_4 : decode cX2_mark 4 = .ok (.getfield 143, 3) := by decide +kernel
theorem dX2_mark_7 : decode cX2_mark 7 = .ok (.astore 6, 2) := by decide +kernel
theorem dX2_mark_9 : decode cX2_mark 9 = .ok (.iconst 0, 1) := by decide +kernel
theorem dX2_mark_10 : decode cX2_mark 10 = .ok (.istore 7, 2) := by decide +kernel
theorem dX2_mark_12 : decode cX2_mark 12 = .ok (.iload 7, 2) := by decide +kernel
theorem dX2_mark_14 : decode cX2_mark 14 = .ok (.aload_n 0, 1) := by decide +kernel
theorem dX2_mark_15 : decode cX2_mark 15 = .ok (.getfield 53, 3) := by decide +kernel
theorem dX2_mark_18 : decode cX2_mark 18 = .ok (.getfield 117, 3) := by decide +kernel
theorem dX2_mark_21 : decode cX2_mark 21 = .ok (.if_icmp .ge 135, 3) := by decide +kernel
theorem dX2_mark_24 : decode cX2_mark 24 = .ok (.aload_n 0, 1) := by decide +kernel
theorem dX2_mark_25 : decode cX2_mark 25 = .ok (.getfield 33, 3) := by decide +kernel
theorem dX2_mark_28 : decode cX2_mark 28 = .ok (.iload 7, 2) := by decide +kernel
theorem dX2_mark_30 : decode cX2_mark 30 = .ok (.lconst 0, 1) := by decide +kernel
theorem dX2_mark_31 : decode cX2_mark 31 = .ok (.lastore, 1) := by decide +kernel
theorem dX2_mark_32 : decode cX2_mark 32 = .ok (.lload_n 2, 1) := by decide +kernel
theorem dX2_mark_33 : decode cX2_mark 33 = .ok (.iload 7, 2) := by decide +kernel
theorem dX2_mark_35 : decode cX2_mark 35 = .ok (.lushr, 1) := by decide +kernel
theorem dX2_mark_36 : decode cX2_mark 36 = .ok (.lconst 1, 1) := by decide +kernel
theorem dX2_mark_37 : decode cX2_mark 37 = .ok (.land, 1) := by decide +kernel
theorem dX2_mark_38 : decode cX2_mark 38 = .ok (.lconst 0, 1) := by decide +kernel
theorem dX2_mark_39 : decode cX2_mark 39 = .ok (.lcmp, 1) := by decide +kernel
theorem dX2_mark_40 : decode cX2_mark 40 = .ok (.ifCond .ne 6, 3) := by decide +kernel
theorem dX2_mark_43 : decode cX2_mark 43 = .ok (.goto 107, 3) := by decide +kernel
theorem dX2_mark_46 : decode cX2_mark 46 = .ok (.lload 4, 2) := by decide +kernel
theorem dX2_mark_48 : decode cX2_mark 48 = .ok (.iload 7, 2) := by decide +kernel
theorem dX2_mark_50 : decode cX2_mark 50 = .ok (.lushr, 1) := by decide +kernel
theorem dX2_mark_51 : decode cX2_mark 51 = .ok (.lconst 1, 1) := by decide +kernel
theorem dX2_mark_52 : decode cX2_mark 52 = .ok (.land, 1) := by decide +kernel
theorem dX2_mark_53 : decode cX2_mark 53 = .ok (.lconst 0, 1) := by decide +kernel
theorem dX2_mark_54 : decode cX2_mark 54 = .ok (.lcmp, 1) := by decide +kernel
theorem dX2_mark_55 : decode cX2_mark 55 = .ok (.ifCond .eq 7, 3) := by decide +kernel
theorem dX2_mark_58 : decode cX2_mark 58 = .ok (.lload_n 2, 1) := by decide +kernel
theorem dX2_mark_59 : decode cX2_mark 59 = .ok (.goto 5, 3) := by decide +kernel
theorem dX2_mark_62 : decode cX2_mark 62 = .ok (.lload 4, 2) := by decide +kernel
theorem dX2_mark_64 : decode cX2_mark 64 = .ok (.lstore 8, 2) := by decide +kernel
theorem dX2_mark_66 : decode cX2_mark 66 = .ok (.iload 7, 2) := by decide +kernel
theorem dX2_mark_68 : decode cX2_mark 68 = .ok (.istore 10, 2) := by decide +kernel
theorem dX2_mark_70 : decode cX2_mark 70 = .ok (.iload 10, 2) := by decide +kernel
theorem dX2_mark_72 : decode cX2_mark 72 = .ok (.aload_n 0, 1) := by decide +kernel
theorem dX2_mark_73 : decode cX2_mark 73 = .ok (.getfield 53, 3) := by decide +kernel
theorem dX2_mark_76 : decode cX2_mark 76 = .ok (.getfield 117, 3) := by decide +kernel
theorem dX2_mark_79 : decode cX2_mark 79 = .ok (.if_icmp .ge 71, 3) := by decide +kernel
theorem dX2_mark_82 : decode cX2_mark 82 = .ok (.lload 8, 2) := by decide +kernel
theorem dX2_mark_84 : decode cX2_mark 84 = .ok (.iload 10, 2) := by decide +kernel
theorem dX2_mark_86 : decode cX2_mark 86 = .ok (.lushr, 1) := by decide +kernel
theorem dX2_mark_87 : decode cX2_mark 87 = .ok (.lconst 1, 1) := by decide +kernel
theorem dX2_mark_88 : decode cX2_mark 88 = .ok (.land, 1) := by decide +kernel
theorem dX2_mark_89 : decode cX2_mark 89 = .ok (.lconst 0, 1) := by decide +kernel
theorem dX2_mark_90 : decode cX2_mark 90 = .ok (.lcmp, 1) := by decide +kernel
theorem dX2_mark_91 : decode cX2_mark 91 = .ok (.ifCond .eq 53, 3) := by decide +kernel
theorem dX2_mark_94 : decode cX2_mark 94 = .ok (.aload_n 0, 1) := by decide +kernel
theorem dX2_mark_95 : decode cX2_mark 95 = .ok (.getfield 12, 3) := by decide +kernel
theorem dX2_mark_98 : decode cX2_mark 98 = .ok (.aload 6, 2) := by decide +kernel
theorem dX2_mark_100 : decode cX2_mark 100 = .ok (.iload_n 1, 1) := by decide +kernel
theorem dX2_mark_101 : decode cX2_mark 101 = .ok (.iaload, 1) := by decide +kernel
theorem dX2_mark_102 : decode cX2_mark 102 = .ok (.aload 6, 2) := by decide +kernel
theorem dX2_mark_104 : decode cX2_mark 104 = .ok (.iload 7, 2) := by decide +kernel
theorem dX2_mark_106 : decode cX2_mark 106 = .ok (.iaload, 1) := by decide +kernel
theorem dX2_mark_107 : decode cX2_mark 107 = .ok (.aload 6, 2) := by decide +kernel
theorem dX2_mark_109 : decode cX2_mark 109 = .ok (.iload 10, 2) := by decide +kernel
theorem dX2_mark_111 : decode cX2_mark 111 = .ok (.iaload, 1) := by decide +kernel
theorem dX2_mark_112 : decode cX2_mark 112 = .ok (.invokevirtual 146, 3) := by decide +kernel
theorem dX2_mark_115 : decode cX2_mark 115 = .ok (.istore 11, 2) := by decide +kernel
theorem dX2_mark_117 : decode cX2_mark 117 = .ok (.aload_n 0, 1) := by decide +kernel
theorem dX2_mark_118 : decode cX2_mark 118 = .ok (.getfield 33, 3) := by decide +kernel
theorem dX2_mark_121 : decode cX2_mark 121 = .ok (.iload 7, 2) := by decide +kernel
theorem dX2_mark_123 : decode cX2_mark 123 = .ok (.dup2, 1) := by decide +kernel
theorem dX2_mark_124 : decode cX2_mark 124 = .ok (.laload, 1) := by decide +kernel
theorem dX2_mark_125 : decode cX2_mark 125 = .ok (.aload_n 0, 1) := by decide +kernel
theorem dX2_mark_126 : decode cX2_mark 126 = .ok (.iload 11, 2) := by decide +kernel
theorem dX2_mark_128 : decode cX2_mark 128 = .ok (.invokevirtual 140, 3) := by decide +kernel
theorem dX2_mark_131 : decode cX2_mark 131 = .ok (.ifCond .eq 7, 3) := by decide +kernel
theorem dX2_mark_134 : decode cX2_mark 134 = .ok (.lconst 0, 1) := by decide +kernel
theorem dX2_mark_135 : decode cX2_mark 135 = .ok (.goto 7, 3) := by decide +kernel
theorem dX2_mark_138 : decode cX2_mark 138 = .ok (.lconst 1, 1) := by decide +kernel
theorem dX2_mark_139 : decode cX2_mark 139 = .ok (.iload 10, 2) := by decide +kernel
theorem dX2_mark_141 : decode cX2_mark 141 = .ok (.lshl, 1) := by decide +kernel
theorem dX2_mark_142 : decode cX2_mark 142 = .ok (.lor, 1) := by decide +kernel
theorem dX2_mark_143 : decode cX2_mark 143 = .ok (.lastore, 1) := by decide +kernel
theorem dX2_mark_144 : decode cX2_mark 144 = .ok (.iinc 10 1, 3) := by decide +kernel
theorem dX2_mark_147 : decode cX2_mark 147 = .ok (.goto (-77), 3) := by decide +kernel
theorem dX2_mark_150 : decode cX2_mark 150 = .ok (.iinc 7 1, 3) := by decide +kernel
theorem dX2_mark_153 : decode cX2_mark 153 = .ok (.goto (-141), 3) := by decide +kernel
theorem dX2_mark_156 : decode cX2_mark 156 = .ok (.return_, 1) := by decide +kernel
theorem dX2_total_0 : decode cX2_total 0 = .ok (.iconst 0, 1) := by decide +kernel
theorem dX2_total_1 : decode cX2_total 1 = .ok (.istore_n 2, 1) := by decide +kernel
theorem dX2_total_2 : decode cX2_total 2 = .ok (.iconst 0, 1) := by decide +kernel
theorem dX2_total_3 : decode cX2_total 3 = .ok (.istore_n 3, 1) := by decide +kernel
theorem dX2_total_4 : decode cX2_total 4 = .ok (.iload_n 3, 1) := by decide +kernel
theorem dX2_total_5 : decode cX2_total 5 = .ok (.aload_n 0, 1) := by decide +kernel
theorem dX2_total_6 : decode cX2_total 6 = .ok (.getfield 53, 3) := by decide +kernel
theorem dX2_total_9 : decode cX2_total 9 = .ok (.getfield 117, 3) := by decide +kernel
theorem dX2_total_12 : decode cX2_total 12 = .ok (.if_icmp .ge 18, 3) := by decide +kernel
theorem dX2_total_15 : decode cX2_total 15 = .ok (.iload_n 2, 1) := by decide +kernel
theorem dX2_total_16 : decode cX2_total 16 = .ok (.aload_n 0, 1) := by decide +kernel
theorem dX2_total_17 : decode cX2_total 17 = .ok (.iload_n 3, 1) := by decide +kernel
theorem dX2_total_18 : decode cX2_total 18 = .ok (.iload_n 1, 1) := by decide +kernel
theorem dX2_total_19 : decode cX2_total 19 = .ok (.invokevirtual 156, 3) := by decide +kernel
theorem dX2_total_22 : decode cX2_total 22 = .ok (.iadd, 1) := by decide +kernel
theorem dX2_total_23 : decode cX2_total 23 = .ok (.istore_n 2, 1) := by decide +kernel
theorem dX2_total_24 : decode cX2_total 24 = .ok (.iinc 3 1, 3) := by decide +kernel
theorem dX2_total_27 : decode cX2_total 27 = .ok (.goto (-23), 3) := by decide +kernel
theorem dX2_total_30 : decode cX2_total 30 = .ok (.iload_n 2, 1) := by decide +kernel
theorem dX2_total_31 : decode cX2_total 31 = .ok (.ireturn, 1) := by decide +kernel
theorem dX2_unlikePairs_0 : decode cX2_unlikePairs 0 = .ok (.iconst 0, 1) := by decide +kernel
theorem dX2_unlikePairs_1 : decode cX2_unlikePairs 1 = .ok (.istore_n 2, 1) := by decide +kernel
theorem dX2_unlikePairs_2 : decode cX2_unlikePairs 2 = .ok (.iload_n 2, 1) := by decide +kernel
theorem dX2_unlikePairs_3 : decode cX2_unlikePairs 3 = .ok (.aload_n 0, 1) := by decide +kernel
theorem dX2_unlikePairs_4 : decode cX2_unlikePairs 4 = .ok (.getfield 53, 3) := by decide +kernel
theorem dX2_unlikePairs_7 : decode cX2_unlikePairs 7 = .ok (.getfield 117, 3) := by decide +kernel
theorem dX2_unlikePairs_10 : decode cX2_unlikePairs 10 = .ok (.if_icmp .ge 16, 3) := by decide +kernel
theorem dX2_unlikePairs_13 : decode cX2_unlikePairs 13 = .ok (.aload_n 0, 1) := by decide +kernel
theorem dX2_unlikePairs_14 : decode cX2_unlikePairs 14 = .ok (.getfield 37, 3) := by decide +kernel
theorem dX2_unlikePairs_17 : decode cX2_unlikePairs 17 = .ok (.iload_n 2, 1) := by decide +kernel
theorem dX2_unlikePairs_18 : decode cX2_unlikePairs 18 = .ok (.lconst 0, 1) := by decide +kernel
theorem dX2_unlikePairs_19 : decode cX2_unlikePairs 19 = .ok (.lastore, 1) := by decide +kernel
theorem dX2_unlikePairs_20 : decode cX2_unlikePairs 20 = .ok (.iinc 2 1, 3) := by decide +kernel
theorem dX2_unlikePairs_23 : decode cX2_unlikePairs 23 = .ok (.goto (-21), 3) := by decide +kernel
theorem dX2_unlikePairs_26 : decode cX2_unlikePairs 26 = .ok (.iconst 0, 1) := by decide +kernel
theorem dX2_unlikePairs_27 : decode cX2_unlikePairs 27 = .ok (.istore_n 2, 1) := by decide +kernel
theorem dX2_unlikePairs_28 : decode cX2_unlikePairs 28 = .ok (.iload_n 2, 1) := by decide +kernel
theorem dX2_unlikePairs_29 : decode cX2_unlikePairs 29 = .ok (.aload_n 0, 1) := by decide +kernel
theorem dX2_unlikePairs_30 : decode cX2_unlikePairs 30 = .ok (.getfield 53, 3) := by decide +kernel
theorem dX2_unlikePairs_33 : decode cX2_unlikePairs 33 = .ok (.getfield 117, 3) := by decide +kernel
theorem dX2_unlikePairs_36 : decode cX2_unlikePairs 36 = .ok (.if_icmp .ge 52, 3) := by decide +kernel
theorem dX2_unlikePairs_39 : decode cX2_unlikePairs 39 = .ok (.aload_n 0, 1) := by decide +kernel
theorem dX2_unlikePairs_40 : decode cX2_unlikePairs 40 = .ok (.iload_n 2, 1) := by decide +kernel
theorem dX2_unlikePairs_41 : decode cX2_unlikePairs 41 = .ok (.iload_n 1, 1) := by decide +kernel
theorem dX2_unlikePairs_42 : decode cX2_unlikePairs 42 = .ok (.invokevirtual 156, 3) := by decide +kernel
theorem dX2_unlikePairs_45 : decode cX2_unlikePairs 45 = .ok (.ifCond .le 37, 3) := by decide +kernel
theorem dX2_unlikePairs_48 : decode cX2_unlikePairs 48 = .ok (.iconst 0, 1) := by decide +kernel
theorem dX2_unlikePairs_49 : decode cX2_unlikePairs 49 = .ok (.istore_n 3, 1) := by decide +kernel
theorem dX2_unlikePairs_50 : decode cX2_unlikePairs 50 = .ok (.iload_n 3, 1) := by decide +kernel
theorem dX2_unlikePairs_51 : decode cX2_unlikePairs 51 = .ok (.aload_n 0, 1) := by decide +kernel
theorem dX2_unlikePairs_52 : decode cX2_unlikePairs 52 = .ok (.getfield 53, 3) := by decide +kernel
theorem dX2_unlikePairs_55 : decode cX2_unlikePairs 55 = .ok (.getfield 117, 3) := by decide +kernel
theorem dX2_unlikePairs_58 : decode cX2_unlikePairs 58 = .ok (.if_icmp .ge 24, 3) := by decide +kernel
theorem dX2_unlikePairs_61 : decode cX2_unlikePairs 61 = .ok (.aload_n 0, 1) := by decide +kernel
theorem dX2_unlikePairs_62 : decode cX2_unlikePairs 62 = .ok (.getfield 37, 3) := by decide +kernel
theorem dX2_unlikePairs_65 : decode cX2_unlikePairs 65 = .ok (.iload_n 3, 1) := by decide +kernel
theorem dX2_unlikePairs_66 : decode cX2_unlikePairs 66 = .ok (.dup2, 1) := by decide +kernel
theorem dX2_unlikePairs_67 : decode cX2_unlikePairs 67 = .ok (.laload, 1) := by decide +kernel
theorem dX2_unlikePairs_68 : decode cX2_unlikePairs 68 = .ok (.aload_n 0, 1) := by decide +kernel
theorem dX2_unlikePairs_69 : decode cX2_unlikePairs 69 = .ok (.getfield 33, 3) := by decide +kernel
theorem dX2_unlikePairs_72 : decode cX2_unlikePairs 72 = .ok (.iload_n 3, 1) := by decide +kernel
theorem dX2_unlikePairs_73 : decode cX2_unlikePairs 73 = .ok (.laload, 1) := by decide +kernel
theorem dX2_unlikePairs_74 : decode cX2_unlikePairs 74 = .ok (.lor, 1) := by decide +kernel
theorem dX2_unlikePairs_75 : decode cX2_unlikePairs 75 = .ok (.lastore, 1) := by decide +kernel
theorem dX2_unlikePairs_76 : decode cX2_unlikePairs 76 = .ok (.iinc 3 1, 3) := by decide +kernel
theorem dX2_unlikePairs_79 : decode cX2_unlikePairs 79 = .ok (.goto (-29), 3) := by decide +kernel
theorem dX2_unlikePairs_82 : decode cX2_unlikePairs 82 = .ok (.iinc 2 1, 3) := by decide +kernel
theorem dX2_unlikePairs_85 : decode cX2_unlikePairs 85 = .ok (.goto (-57), 3) := by decide +kernel
theorem dX2_unlikePairs_88 : decode cX2_unlikePairs 88 = .ok (.iconst 0, 1) := by decide +kernel
theorem dX2_unlikePairs_89 : decode cX2_unlikePairs 89 = .ok (.istore_n 2, 1) := by decide +kernel
theorem dX2_unlikePairs_90 : decode cX2_unlikePairs 90 = .ok (.iconst 0, 1) := by decide +kernel
theorem dX2_unlikePairs_91 : decode cX2_unlikePairs 91 = .ok (.istore_n 3, 1) := by decide +kernel
theorem dX2_unlikePairs_92 : decode cX2_unlikePairs 92 = .ok (.iload_n 3, 1) := by decide +kernel
theorem dX2_unlikePairs_93 : decode cX2_unlikePairs 93 = .ok (.aload_n 0, 1) := by decide +kernel
theorem dX2_unlikePairs_94 : decode cX2_unlikePairs 94 = .ok (.getfield 53, 3) := by decide +kernel
theorem dX2_unlikePairs_97 : decode cX2_unlikePairs 97 = .ok (.getfield 117, 3) := by decide +kernel
theorem dX2_unlikePairs_100 : decode cX2_unlikePairs 100 = .ok (.if_icmp .ge 21, 3) := by decide +kernel
theorem dX2_unlikePairs_103 : decode cX2_unlikePairs 103 = .ok (.iload_n 2, 1) := by decide +kernel
theorem dX2_unlikePairs_104 : decode cX2_unlikePairs 104 = .ok (.aload_n 0, 1) := by decide +kernel
theorem dX2_unlikePairs_105 : decode cX2_unlikePairs 105 = .ok (.getfield 37, 3) := by decide +kernel
theorem dX2_unlikePairs_108 : decode cX2_unlikePairs 108 = .ok (.iload_n 3, 1) := by decide +kernel
theorem dX2_unlikePairs_109 : decode cX2_unlikePairs 109 = .ok (.laload, 1) := by decide +kernel
theorem dX2_unlikePairs_110 : decode cX2_unlikePairs 110 = .ok (.invokestatic 87, 3) := by decide +kernel
theorem dX2_unlikePairs_113 : decode cX2_unlikePairs 113 = .ok (.iadd, 1) := by decide +kernel
theorem dX2_unlikePairs_114 : decode cX2_unlikePairs 114 = .ok (.istore_n 2, 1) := by decide +kernel
theorem dX2_unlikePairs_115 : decode cX2_unlikePairs 115 = .ok (.iinc 3 1, 3) := by decide +kernel
theorem dX2_unlikePairs_118 : decode cX2_unlikePairs 118 = .ok (.goto (-26), 3) := by decide +kernel
theorem dX2_unlikePairs_121 : decode cX2_unlikePairs 121 = .ok (.iload_n 2, 1) := by decide +kernel
theorem dX2_unlikePairs_122 : decode cX2_unlikePairs 122 = .ok (.ireturn, 1) := by decide +kernel
theorem iuX2_breaksFrom_X2 : ∀ w ∈ u_ws RX2 TX2 12, w ∈ W_X2_breaksFrom := fun w h => List.mem_cons_of_mem _ (List.mem_append_right _ (List.mem_append_left _ (h)))
theorem iuX2_breaksFrom_X6 : ∀ w ∈ u_ws RX6 TX6 8, w ∈ W_X2_breaksFrom := fun w h => List.mem_cons_of_mem _ (List.mem_append_right _ (List.mem_append_right _ (List.mem_append_left _ (h))))
theorem iuX2_countHits_X2 : ∀ w ∈ u_ws RX2 TX2 12, w ∈ W_X2_countHits := fun w h => List.mem_cons_of_mem _ (List.mem_append_right _ (List.mem_append_left _ (h)))
theorem iuX2_countHits_X6 : ∀ w ∈ u_ws RX6 TX6 8, w ∈ W_X2_countHits := fun w h => List.mem_cons_of_mem _ (List.mem_append_right _ (List.mem_append_right _ (List.mem_append_left _ (h))))
theorem iuX2_countHitsFrom_X2 : ∀ w ∈ u_ws RX2 TX2 12, w ∈ W_X2_countHitsFrom := fun w h => List.mem_cons_of_mem _ (List.mem_append_right _ (List.mem_append_left _ (h)))
theorem iuX2_countHitsFrom_X6 : ∀ w ∈ u_ws RX6 TX6 8, w ∈ W_X2_countHitsFrom := fun w h => List.mem_cons_of_mem _ (List.mem_append_right _ (List.mem_append_right _ (List.mem_append_left _ (h))))
theorem iuX2_countHitsOf_X0 : ∀ w ∈ u_ws RX0 TX0 15, w ∈ W_X2_countHitsOf := fun w h => List.mem_cons_of_mem _ (List.mem_append_right _ (List.mem_append_right _ (List.mem_append_left _ (h))))
theorem iuX2_countHitsOf_X2 : ∀ w ∈ u_ws RX2 TX2 12, w ∈ W_X2_countHitsOf := fun w h => List.mem_cons_of_mem _ (List.mem_append_right _ (List.mem_append_left _ (h)))
theorem iuX2_depthOf_X2 : ∀ w ∈ u_ws RX2 TX2 12, w ∈ W_X2_depthOf := fun w h => List.mem_cons_of_mem _ (List.mem_append_right _ (h))
theorem iuX2_findSmallest_X2 : ∀ w ∈ u_ws RX2 TX2 12, w ∈ W_X2_findSmallest := fun w h => List.mem_cons_of_mem _ (List.mem_append_right _ (List.mem_append_left _ (h)))
theorem iuX2_findSmallest_X6 : ∀ w ∈ u_ws RX6 TX6 8, w ∈ W_X2_findSmallest := fun w h => List.mem_cons_of_mem _ (List.mem_append_right _ (List.mem_append_right _ (List.mem_append_left _ (h))))
theorem iuX2_findSmallestFrom_X2 : ∀ w ∈ u_ws RX2 TX2 12, w ∈ W_X2_findSmallestFrom := fun w h => List.mem_cons_of_mem _ (List.mem_append_right _ (List.mem_append_left _ (h)))
theorem iuX2_findSmallestFrom_X6 : ∀ w ∈ u_ws RX6 TX6 8, w ∈ W_X2_findSmallestFrom := fun w h => List.mem_cons_of_mem _ (List.mem_append_right _ (List.mem_append_right _ (List.mem_append_left _ (h))))
theorem iuX2_hasBreakAmong_X2 : ∀ w ∈ u_ws RX2 TX2 12, w ∈ W_X2_hasBreakAmong := fun w h => List.mem_cons_of_mem _ (List.mem_append_right _ (List.mem_append_left _ (h)))
theorem iuX2_hasBreakAmong_X6 : ∀ w ∈ u_ws RX6 TX6 8, w ∈ W_X2_hasBreakAmong := fun w h => List.mem_cons_of_mem _ (List.mem_append_right _ (List.mem_append_right _ (h)))
theorem iuX2_isSafe_X2 : ∀ w ∈ u_ws RX2 TX2 12, w ∈ W_X2_isSafe := fun w h => List.mem_cons_of_mem _ (List.mem_append_right _ (List.mem_append_left _ (h)))
theorem iuX2_isSafe_X6 : ∀ w ∈ u_ws RX6 TX6 8, w ∈ W_X2_isSafe := fun w h => List.mem_cons_of_mem _ (List.mem_append_right _ (List.mem_append_right _ (List.mem_append_left _ (h))))
theorem iuX2_mark_X2 : ∀ w ∈ u_ws RX2 TX2 12, w ∈ W_X2_mark := fun w h => List.mem_cons_of_mem _ (List.mem_append_right _ (List.mem_append_left _ (h)))
theorem iuX2_mark_X6 : ∀ w ∈ u_ws RX6 TX6 8, w ∈ W_X2_mark := fun w h => List.mem_cons_of_mem _ (List.mem_append_right _ (List.mem_append_right _ (List.mem_append_left _ (h))))
theorem iuX2_total_X2 : ∀ w ∈ u_ws RX2 TX2 12, w ∈ W_X2_total := fun w h => List.mem_cons_of_mem _ (List.mem_append_right _ (List.mem_append_left _ (h)))
theorem iuX2_total_X6 : ∀ w ∈ u_ws RX6 TX6 8, w ∈ W_X2_total := fun w h => List.mem_cons_of_mem _ (List.mem_append_right _ (List.mem_append_right _ (List.mem_append_left _ (h))))
theorem iuX2_unlikePairs_X2 : ∀ w ∈ u_ws RX2 TX2 12, w ∈ W_X2_unlikePairs := fun w h => List.mem_cons_of_mem _ (List.mem_append_right _ (List.mem_append_left _ (h)))
theorem iuX2_unlikePairs_X6 : ∀ w ∈ u_ws RX6 TX6 8, w ∈ W_X2_unlikePairs := fun w h => List.mem_cons_of_mem _ (List.mem_append_right _ (List.mem_append_right _ (List.mem_append_left _ (h))))
theorem gw_X2_breaksFrom_J13_bitCount_95d88 : GoodIn W_X2_breaksFrom W_J13_bitCount_95d88 := fun w h => ⟨List.mem_cons_of_mem _ (List.mem_append_right _ (List.mem_append_right _ (List.mem_append_right _ (List.mem_append_right _ (List.mem_append_right _ (List.mem_append_right _ (h))))))), (wI_J13_bitCount_95d88 w h).2⟩
theorem gc_X2_breaksFrom_87_J13_bitCount_95d88 : GoodIn W_X2_breaksFrom (va_wsS RX2 87 yJ13_bitCount_95d88 W_J13_bitCount_95d88) := goodIn_app (goodIn_sub (List.forall_mem_cons.mpr ⟨List.mem_cons_of_mem _ (List.mem_append_left _ (List.mem_of_getElem? (i := 14) rfl)), List.forall_mem_cons.mpr ⟨List.mem_cons_of_mem _ (List.mem_append_left _ (List.mem_of_getElem? (i := 15) rfl)), List.forall_mem_cons.mpr ⟨List.mem_cons_of_mem _ (List.mem_append_left _ (List.mem_of_getElem? (i := 16) rfl)), fun _ h => absurd h List.not_mem_nil⟩⟩⟩) (by decide +kernel)) gw_X2_breaksFrom_J13_bitCount_95d88
theorem gw_X2_breaksFrom_X2_isValid : GoodIn W_X2_breaksFrom W_X2_isValid := fun w h => ⟨List.mem_cons_of_mem _ (List.mem_append_right _ (List.mem_append_right _ (List.mem_append_right _ (List.mem_append_left _ (h))))), (wI_X2_isValid w h).2⟩
theorem gc_X2_breaksFrom_140_X2_isValid : GoodIn W_X2_breaksFrom (wsV RX2 140 RX2 yX2_isValid W_X2_isValid) := goodIn_app (goodIn_sub (List.forall_mem_cons.mpr ⟨List.mem_cons_of_mem _ (List.mem_append_left _ (List.mem_of_getElem? (i := 0) rfl)), List.forall_mem_cons.mpr ⟨List.mem_cons_of_mem _ (List.mem_append_left _ (List.mem_of_getElem? (i := 1) rfl)), List.forall_mem_cons.mpr ⟨List.mem_cons_of_mem _ (List.mem_append_left _ (List.mem_of_getElem? (i := 2) rfl)), List.forall_mem_cons.mpr ⟨List.mem_cons_of_mem _ (List.mem_append_left _ (List.mem_of_getElem? (i := 3) rfl)), fun _ h => absurd h List.not_mem_nil⟩⟩⟩⟩) (by decide +kernel)) gw_X2_breaksFrom_X2_isValid
theorem gw_X2_breaksFrom_X2_spread : GoodIn W_X2_breaksFrom W_X2_spread := fun w h => ⟨List.mem_cons_of_mem _ (List.mem_append_right _ (List.mem_append_right _ (List.mem_append_right _ (List.mem_append_right _ (List.mem_append_left _ (h)))))), (wI_X2_spread w h).2⟩
theorem gc_X2_breaksFrom_149_X2_spread : GoodIn W_X2_breaksFrom (wsV RX2 149 RX2 yX2_spread W_X2_spread) := goodIn_app (goodIn_sub (List.forall_mem_cons.mpr ⟨List.mem_cons_of_mem _ (List.mem_append_left _ (List.mem_of_getElem? (i := 4) rfl)), List.forall_mem_cons.mpr ⟨List.mem_cons_of_mem _ (List.mem_append_left _ (List.mem_of_getElem? (i := 5) rfl)), List.forall_mem_cons.mpr ⟨List.mem_cons_of_mem _ (List.mem_append_left _ (List.mem_of_getElem? (i := 6) rfl)), List.forall_mem_cons.mpr ⟨List.mem_cons_of_mem _ (List.mem_append_left _ (List.mem_of_getElem? (i := 3) rfl)), fun _ h => absurd h List.not_mem_nil⟩⟩⟩⟩) (by decide +kernel)) gw_X2_breaksFrom_X2_spread
theorem gw_X2_breaksFrom_X2_mark : GoodIn W_X2_breaksFrom W_X2_mark := fun w h => ⟨List.mem_cons_of_mem _ (List.mem_append_right _ (List.mem_append_right _ (List.mem_append_right _ (List.mem_append_right _ (List.mem_append_right _ (List.mem_append_left _ (h))))))), (wI_X2_mark w h).2⟩
theorem gc_X2_breaksFrom_159_X2_mark : GoodIn W_X2_breaksFrom (wsV RX2 159 RX2 yX2_mark W_X2_mark) := goodIn_app (goodIn_sub (List.forall_mem_cons.mpr ⟨List.mem_cons_of_mem _ (List.mem_append_left _ (List.mem_of_getElem? (i := 8) rfl)), List.forall_mem_cons.mpr ⟨List.mem_cons_of_mem _ (List.mem_append_left _ (List.mem_of_getElem? (i := 9) rfl)), List.forall_mem_cons.mpr ⟨List.mem_cons_of_mem _ (List.mem_append_left _ (List.mem_of_getElem? (i := 10) rfl)), List.forall_mem_cons.mpr ⟨List.mem_cons_of_mem _ (List.mem_append_left _ (List.mem_of_getElem? (i := 3) rfl)), fun _ h => absurd h List.not_mem_nil⟩⟩⟩⟩) (by decide +kernel)) gw_X2_breaksFrom_X2_mark
theorem gw_X2_countHits_X2_breaksFrom : GoodIn W_X2_countHits W_X2_breaksFrom := fun w h => ⟨List.mem_cons_of_mem _ (List.mem_append_right _ (List.mem_append_right _ (List.mem_append_right _ (List.mem_append_left _ (h))))), (wI_X2_breaksFrom w h).2⟩
theorem gc_X2_countHits_156_X2_breaksFrom : GoodIn W_X2_countHits (wsV RX2 156 RX2 yX2_breaksFrom W_X2_breaksFrom) := goodIn_app (goodIn_sub (List.forall_mem_cons.mpr ⟨List.mem_cons_of_mem _ (List.mem_append_left _ (List.mem_of_getElem? (i := 3) rfl)), List.forall_mem_cons.mpr ⟨List.mem_cons_of_mem _ (List.mem_append_left _ (List.mem_of_getElem? (i := 4) rfl)), List.forall_mem_cons.mpr ⟨List.mem_cons_of_mem _ (List.mem_append_left _ (List.mem_of_getElem? (i := 5) rfl)), List.forall_mem_cons.mpr ⟨List.mem_cons_of_mem _ (List.mem_append_left _ (List.mem_of_getElem? (i := 6) rfl)), fun _ h => absurd h List.not_mem_nil⟩⟩⟩⟩) (by decide +kernel)) gw_X2_countHits_X2_breaksFrom
theorem gw_X2_countHits_X2_countHitsFrom : GoodIn W_X2_countHits W_X2_countHitsFrom := fun w h => ⟨List.mem_cons_of_mem _ (List.mem_append_right _ (List.mem_append_right _ (List.mem_append_right _ (List.mem_append_right _ (h))))), (wI_X2_countHitsFrom w h).2⟩
theorem gc_X2_countHits_163_X2_countHitsFrom : GoodIn W_X2_countHits (wsV RX2 163 RX2 yX2_countHitsFrom W_X2_countHitsFrom) := goodIn_app (goodIn_sub (List.forall_mem_cons.mpr ⟨List.mem_cons_of_mem _ (List.mem_append_left _ (List.mem_of_getElem? (i := 7) rfl)), List.forall_mem_cons.mpr ⟨List.mem_cons_of_mem _ (List.mem_append_left _ (List.mem_of_getElem? (i := 8) rfl)), List.forall_mem_cons.mpr ⟨List.mem_cons_of_mem _ (List.mem_append_left _ (List.mem_of_getElem? (i := 9) rfl)), List.forall_mem_cons.mpr ⟨List.mem_cons_of_mem _ (List.mem_append_left _ (List.mem_of_getElem? (i := 6) rfl)), fun _ h => absurd h List.not_mem_nil⟩⟩⟩⟩) (by decide +kernel)) gw_X2_countHits_X2_countHitsFrom
theorem gw_X2_countHitsFrom_X2_merged : GoodIn W_X2_countHitsFrom W_X2_merged := fun w h => ⟨List.mem_cons_of_mem _ (List.mem_append_right _ (List.mem_append_right _ (List.mem_append_right _ (List.mem_append_left _ (h))))), (wI_X2_merged w h).2⟩
theorem gc_X2_countHitsFrom_118_X2_merged : GoodIn W_X2_countHitsFrom (wsV RX2 118 RX2 yX2_merged W_X2_merged) := goodIn_app (goodIn_sub (List.forall_mem_cons.mpr ⟨List.mem_cons_of_mem _ (List.mem_append_left _ (List.mem_of_getElem? (i := 3) rfl)), List.forall_mem_cons.mpr ⟨List.mem_cons_of_mem _ (List.mem_append_left _ (List.mem_of_getElem? (i := 4) rfl)), List.forall_mem_cons.mpr ⟨List.mem_cons_of_mem _ (List.mem_append_left _ (List.mem_of_getElem? (i := 5) rfl)), List.forall_mem_cons.mpr ⟨List.mem_cons_of_mem _ (List.mem_append_left _ (List.mem_of_getElem? (i := 6) rfl)), fun _ h => absurd h List.not_mem_nil⟩⟩⟩⟩) (by decide +kernel)) gw_X2_countHitsFrom_X2_merged
theorem gw_X2_countHitsFrom_X2_countHitsOf : GoodIn W_X2_countHitsFrom W_X2_countHitsOf := fun w h => ⟨List.mem_cons_of_mem _ (List.mem_append_right _ (List.mem_append_right _ (List.mem_append_right _ (List.mem_append_right _ (h))))), (wI_X2_countHitsOf w h).2⟩
theorem gc_X2_countHitsFrom_167_X2_countHitsOf : GoodIn W_X2_countHitsFrom (wsV RX2 167 RX2 yX2_countHitsOf W_X2_countHitsOf) := goodIn_app (goodIn_sub (List.forall_mem_cons.mpr ⟨List.mem_cons_of_mem _ (List.mem_append_left _ (List.mem_of_getElem? (i := 7) rfl)), List.forall_mem_cons.mpr ⟨List.mem_cons_of_mem _ (List.mem_append_left _ (List.mem_of_getElem? (i := 8) rfl)), List.forall_mem_cons.mpr ⟨List.mem_cons_of_mem _ (List.mem_append_left _ (List.mem_of_getElem? (i := 9) rfl)), List.forall_mem_cons.mpr ⟨List.mem_cons_of_mem _ (List.mem_append_left _ (List.mem_of_getElem? (i := 6) rfl)), fun _ h => absurd h List.not_mem_nil⟩⟩⟩⟩) (by decide +kernel)) gw_X2_countHitsFrom_X2_countHitsOf
theorem gw_X2_countHitsOf_X2_isBrokenBy : GoodIn W_X2_countHitsOf W_X2_isBrokenBy := fun w h => ⟨List.mem_cons_of_mem _ (List.mem_append_right _ (List.mem_append_right _ (List.mem_append_right _ (h)))), (wI_X2_isBrokenBy w h).2⟩
theorem gc_X2_countHitsOf_124_X2_isBrokenBy : GoodIn W_X2_countHitsOf (wsV RX2 124 RX2 yX2_isBrokenBy W_X2_isBrokenBy) := goodIn_app (goodIn_sub (List.forall_mem_cons.mpr ⟨List.mem_cons_of_mem _ (List.mem_append_left _ (List.mem_of_getElem? (i := 2) rfl)), List.forall_mem_cons.mpr ⟨List.mem_cons_of_mem _ (List.mem_append_left _ (List.mem_of_getElem? (i := 3) rfl)), List.forall_mem_cons.mpr ⟨List.mem_cons_of_mem _ (List.mem_append_left _ (List.mem_of_getElem? (i := 4) rfl)), List.forall_mem_cons.mpr ⟨List.mem_cons_of_mem _ (List.mem_append_left _ (List.mem_of_getElem? (i := 5) rfl)), fun _ h => absurd h List.not_mem_nil⟩⟩⟩⟩) (by decide +kernel)) gw_X2_countHitsOf_X2_isBrokenBy
theorem gw_X2_findSmallest_X2_spread : GoodIn W_X2_findSmallest W_X2_spread := fun w h => ⟨List.mem_cons_of_mem _ (List.mem_append_right _ (List.mem_append_right _ (List.mem_append_right _ (List.mem_append_right _ (List.mem_append_left _ (h)))))), (wI_X2_spread w h).2⟩
theorem gc_X2_findSmallest_149_X2_spread : GoodIn W_X2_findSmallest (wsV RX2 149 RX2 yX2_spread W_X2_spread) := goodIn_app (goodIn_sub (List.forall_mem_cons.mpr ⟨List.mem_cons_of_mem _ (List.mem_append_left _ (List.mem_of_getElem? (i := 8) rfl)), List.forall_mem_cons.mpr ⟨List.mem_cons_of_mem _ (List.mem_append_left _ (List.mem_of_getElem? (i := 9) rfl)), List.forall_mem_cons.mpr ⟨List.mem_cons_of_mem _ (List.mem_append_left _ (List.mem_of_getElem? (i := 10) rfl)), List.forall_mem_cons.mpr ⟨List.mem_cons_of_mem _ (List.mem_append_left _ (List.mem_of_getElem? (i := 6) rfl)), fun _ h => absurd h List.not_mem_nil⟩⟩⟩⟩) (by decide +kernel)) gw_X2_findSmallest_X2_spread
theorem gw_X2_findSmallest_X2_breaksFrom : GoodIn W_X2_findSmallest W_X2_breaksFrom := fun w h => ⟨List.mem_cons_of_mem _ (List.mem_append_right _ (List.mem_append_right _ (List.mem_append_right _ (List.mem_append_left _ (h))))), (wI_X2_breaksFrom w h).2⟩
theorem gc_X2_findSmallest_156_X2_breaksFrom : GoodIn W_X2_findSmallest (wsV RX2 156 RX2 yX2_breaksFrom W_X2_breaksFrom) := goodIn_app (goodIn_sub (List.forall_mem_cons.mpr ⟨List.mem_cons_of_mem _ (List.mem_append_left _ (List.mem_of_getElem? (i := 3) rfl)), List.forall_mem_cons.mpr ⟨List.mem_cons_of_mem _ (List.mem_append_left _ (List.mem_of_getElem? (i := 4) rfl)), List.forall_mem_cons.mpr ⟨List.mem_cons_of_mem _ (List.mem_append_left _ (List.mem_of_getElem? (i := 5) rfl)), List.forall_mem_cons.mpr ⟨List.mem_cons_of_mem _ (List.mem_append_left _ (List.mem_of_getElem? (i := 6) rfl)), fun _ h => absurd h List.not_mem_nil⟩⟩⟩⟩) (by decide +kernel)) gw_X2_findSmallest_X2_breaksFrom
theorem gw_X2_findSmallest_X2_findSmallestFrom : GoodIn W_X2_findSmallest W_X2_findSmallestFrom := fun w h => ⟨List.mem_cons_of_mem _ (List.mem_append_right _ (List.mem_append_right _ (List.mem_append_right _ (List.mem_append_right _ (List.mem_append_right _ (h)))))), (wI_X2_findSmallestFrom w h).2⟩
theorem gc_X2_findSmallest_170_X2_findSmallestFrom : GoodIn W_X2_findSmallest (wsV RX2 170 RX2 yX2_findSmallestFrom W_X2_findSmallestFrom) := goodIn_app (goodIn_sub (List.forall_mem_cons.mpr ⟨List.mem_cons_of_mem _ (List.mem_append_left _ (List.mem_of_getElem? (i := 11) rfl)), List.forall_mem_cons.mpr ⟨List.mem_cons_of_mem _ (List.mem_append_left _ (List.mem_of_getElem? (i := 12) rfl)), List.forall_mem_cons.mpr ⟨List.mem_cons_of_mem _ (List.mem_append_left _ (List.mem_of_getElem? (i := 13) rfl)), List.forall_mem_cons.mpr ⟨List.mem_cons_of_mem _ (List.mem_append_left _ (List.mem_of_getElem? (i := 6) rfl)), fun _ h => absurd h List.not_mem_nil⟩⟩⟩⟩) (by decide +kernel)) gw_X2_findSmallest_X2_findSmallestFrom
theorem gw_X2_findSmallestFrom_X2_merged : GoodIn W_X2_findSmallestFrom W_X2_merged := fun w h => ⟨List.mem_cons_of_mem _ (List.mem_append_right _ (List.mem_append_right _ (List.mem_append_right _ (List.mem_append_right _ (h))))), (wI_X2_merged w h).2⟩
theorem gc_X2_findSmallestFrom_118_X2_merged : GoodIn W_X2_findSmallestFrom (wsV RX2 118 RX2 yX2_merged W_X2_merged) := goodIn_app (goodIn_sub (List.forall_mem_cons.mpr ⟨List.mem_cons_of_mem _ (List.mem_append_left _ (List.mem_of_getElem? (i := 8) rfl)), List.forall_mem_cons.mpr ⟨List.mem_cons_of_mem _ (List.mem_append_left _ (List.mem_of_getElem? (i := 9) rfl)), List.forall_mem_cons.mpr ⟨List.mem_cons_of_mem _ (List.mem_append_left _ (List.mem_of_getElem? (i := 10) rfl)), List.forall_mem_cons.mpr ⟨List.mem_cons_of_mem _ (List.mem_append_left _ (List.mem_of_getElem? (i := 6) rfl)), fun _ h => absurd h List.not_mem_nil⟩⟩⟩⟩) (by decide +kernel)) gw_X2_findSmallestFrom_X2_merged
theorem gw_X2_findSmallestFrom_X2_depthOf : GoodIn W_X2_findSmallestFrom W_X2_depthOf := fun w h => ⟨List.mem_cons_of_mem _ (List.mem_append_right _ (List.mem_append_right _ (List.mem_append_right _ (List.mem_append_left _ (h))))), (wI_X2_depthOf w h).2⟩
theorem gc_X2_findSmallestFrom_173_X2_depthOf : GoodIn W_X2_findSmallestFrom (wsV RX2 173 RX2 yX2_depthOf W_X2_depthOf) := goodIn_app (goodIn_sub (List.forall_mem_cons.mpr ⟨List.mem_cons_of_mem _ (List.mem_append_left _ (List.mem_of_getElem? (i := 3) rfl)), List.forall_mem_cons.mpr ⟨List.mem_cons_of_mem _ (List.mem_append_left _ (List.mem_of_getElem? (i := 4) rfl)), List.forall_mem_cons.mpr ⟨List.mem_cons_of_mem _ (List.mem_append_left _ (List.mem_of_getElem? (i := 5) rfl)), List.forall_mem_cons.mpr ⟨List.mem_cons_of_mem _ (List.mem_append_left _ (List.mem_of_getElem? (i := 6) rfl)), fun _ h => absurd h List.not_mem_nil⟩⟩⟩⟩) (by decide +kernel)) gw_X2_findSmallestFrom_X2_depthOf
theorem gw_X2_isSafe_X2_breaksFrom : GoodIn W_X2_isSafe W_X2_breaksFrom := fun w h => ⟨List.mem_cons_of_mem _ (List.mem_append_right _ (List.mem_append_right _ (List.mem_append_right _ (h)))), (wI_X2_breaksFrom w h).2⟩
theorem gc_X2_isSafe_156_X2_breaksFrom : GoodIn W_X2_isSafe (wsV RX2 156 RX2 yX2_breaksFrom W_X2_breaksFrom) := goodIn_app (goodIn_sub (List.forall_mem_cons.mpr ⟨List.mem_cons_of_mem _ (List.mem_append_left _ (List.mem_of_getElem? (i := 2) rfl)), List.forall_mem_cons.mpr ⟨List.mem_cons_of_mem _ (List.mem_append_left _ (List.mem_of_getElem? (i := 3) rfl)), List.forall_mem_cons.mpr ⟨List.mem_cons_of_mem _ (List.mem_append_left _ (List.mem_of_getElem? (i := 4) rfl)), List.forall_mem_cons.mpr ⟨List.mem_cons_of_mem _ (List.mem_append_left _ (List.mem_of_getElem? (i := 5) rfl)), fun _ h => absurd h List.not_mem_nil⟩⟩⟩⟩) (by decide +kernel)) gw_X2_isSafe_X2_breaksFrom
theorem gw_X2_mark_X2_isValid : GoodIn W_X2_mark W_X2_isValid := fun w h => ⟨List.mem_cons_of_mem _ (List.mem_append_right _ (List.mem_append_right _ (List.mem_append_right _ (List.mem_append_right _ (h))))), (wI_X2_isValid w h).2⟩
theorem gc_X2_mark_140_X2_isValid : GoodIn W_X2_mark (wsV RX2 140 RX2 yX2_isValid W_X2_isValid) := goodIn_app (goodIn_sub (List.forall_mem_cons.mpr ⟨List.mem_cons_of_mem _ (List.mem_append_left _ (List.mem_of_getElem? (i := 9) rfl)), List.forall_mem_cons.mpr ⟨List.mem_cons_of_mem _ (List.mem_append_left _ (List.mem_of_getElem? (i := 10) rfl)), List.forall_mem_cons.mpr ⟨List.mem_cons_of_mem _ (List.mem_append_left _ (List.mem_of_getElem? (i := 11) rfl)), List.forall_mem_cons.mpr ⟨List.mem_cons_of_mem _ (List.mem_append_left _ (List.mem_of_getElem? (i := 12) rfl)), fun _ h => absurd h List.not_mem_nil⟩⟩⟩⟩) (by decide +kernel)) gw_X2_mark_X2_isValid
theorem gw_X2_mark_X3_mergePacked : GoodIn W_X2_mark W_X3_mergePacked := fun w h => ⟨List.mem_cons_of_mem _ (List.mem_append_right _ (List.mem_append_right _ (List.mem_append_right _ (List.mem_append_left _ (h))))), (wI_X3_mergePacked w h).2⟩
theorem gc_X2_mark_146_X3_mergePacked : GoodIn W_X2_mark (wsV RX2 146 RX3 yX3_mergePacked W_X3_mergePacked) := goodIn_app (goodIn_sub (List.forall_mem_cons.mpr ⟨List.mem_cons_of_mem _ (List.mem_append_left _ (List.mem_of_getElem? (i := 5) rfl)), List.forall_mem_cons.mpr ⟨List.mem_cons_of_mem _ (List.mem_append_left _ (List.mem_of_getElem? (i := 6) rfl)), List.forall_mem_cons.mpr ⟨List.mem_cons_of_mem _ (List.mem_append_left _ (List.mem_of_getElem? (i := 7) rfl)), List.forall_mem_cons.mpr ⟨List.mem_cons_of_mem _ (List.mem_append_left _ (List.mem_of_getElem? (i := 8) rfl)), fun _ h => absurd h List.not_mem_nil⟩⟩⟩⟩) (by decide +kernel)) gw_X2_mark_X3_mergePacked
theorem gw_X2_total_X2_breaksFrom : GoodIn W_X2_total W_X2_breaksFrom := fun w h => ⟨List.mem_cons_of_mem _ (List.mem_append_right _ (List.mem_append_right _ (List.mem_append_right _ (h)))), (wI_X2_breaksFrom w h).2⟩
theorem gc_X2_total_156_X2_breaksFrom : GoodIn W_X2_total (wsV RX2 156 RX2 yX2_breaksFrom W_X2_breaksFrom) := goodIn_app (goodIn_sub (List.forall_mem_cons.mpr ⟨List.mem_cons_of_mem _ (List.mem_append_left _ (List.mem_of_getElem? (i := 2) rfl)), List.forall_mem_cons.mpr ⟨List.mem_cons_of_mem _ (List.mem_append_left _ (List.mem_of_getElem? (i := 3) rfl)), List.forall_mem_cons.mpr ⟨List.mem_cons_of_mem _ (List.mem_append_left _ (List.mem_of_getElem? (i := 4) rfl)), List.forall_mem_cons.mpr ⟨List.mem_cons_of_mem _ (List.mem_append_left _ (List.mem_of_getElem? (i := 5) rfl)), fun _ h => absurd h List.not_mem_nil⟩⟩⟩⟩) (by decide +kernel)) gw_X2_total_X2_breaksFrom
theorem gw_X2_unlikePairs_J13_bitCount_95d88 : GoodIn W_X2_unlikePairs W_J13_bitCount_95d88 := fun w h => ⟨List.mem_cons_of_mem _ (List.mem_append_right _ (List.mem_append_right _ (List.mem_append_right _ (List.mem_append_right _ (h))))), (wI_J13_bitCount_95d88 w h).2⟩
theorem gc_X2_unlikePairs_87_J13_bitCount_95d88 : GoodIn W_X2_unlikePairs (va_wsS RX2 87 yJ13_bitCount_95d88 W_J13_bitCount_95d88) := goodIn_app (goodIn_sub (List.forall_mem_cons.mpr ⟨List.mem_cons_of_mem _ (List.mem_append_left _ (List.mem_of_getElem? (i := 8) rfl)), List.forall_mem_cons.mpr ⟨List.mem_cons_of_mem _ (List.mem_append_left _ (List.mem_of_getElem? (i := 9) rfl)), List.forall_mem_cons.mpr ⟨List.mem_cons_of_mem _ (List.mem_append_left _ (List.mem_of_getElem? (i := 10) rfl)), fun _ h => absurd h List.not_mem_nil⟩⟩⟩) (by decide +kernel)) gw_X2_unlikePairs_J13_bitCount_95d88
theorem gw_X2_unlikePairs_X2_breaksFrom : GoodIn W_X2_unlikePairs W_X2_breaksFrom := fun w h => ⟨List.mem_cons_of_mem _ (List.mem_append_right _ (List.mem_append_right _ (List.mem_append_right _ (List.mem_append_left _ (h))))), (wI_X2_breaksFrom w h).2⟩
theorem gc_X2_unlikePairs_156_X2_breaksFrom : GoodIn W_X2_unlikePairs (wsV RX2 156 RX2 yX2_breaksFrom W_X2_breaksFrom) := goodIn_app (goodIn_sub (List.forall_mem_cons.mpr ⟨List.mem_cons_of_mem _ (List.mem_append_left _ (List.mem_of_getElem? (i := 3) rfl)), List.forall_mem_cons.mpr ⟨List.mem_cons_of_mem _ (List.mem_append_left _ (List.mem_of_getElem? (i := 4) rfl)), List.forall_mem_cons.mpr ⟨List.mem_cons_of_mem _ (List.mem_append_left _ (List.mem_of_getElem? (i := 5) rfl)), List.forall_mem_cons.mpr ⟨List.mem_cons_of_mem _ (List.mem_append_left _ (List.mem_of_getElem? (i := 6) rfl)), fun _ h => absurd h List.not_mem_nil⟩⟩⟩⟩) (by decide +kernel)) gw_X2_unlikePairs_X2_breaksFrom
