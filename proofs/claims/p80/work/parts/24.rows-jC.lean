theorem dX2_commonLocks_0 : decode cX2_commonLocks 0 = .ok (.aload_n 0, 1) := by decide +kernel
theorem dX2_commonLocks_1 : decode cX2_commonLocks 1 = .ok (.iload_n 1, 1) := by decide +kernel
theorem dX2_commonLocks_2 : decode cX2_commonLocks 2 = .ok (.invokevirtual 176, 3) := by decide +kernel
theorem dX2_commonLocks_5 : decode cX2_commonLocks 5 = .ok (.lstore_n 2, 1) := by decide +kernel
theorem dX2_commonLocks_6 : decode cX2_commonLocks 6 = .ok (.iconst 1, 1) := by decide +kernel
theorem dX2_commonLocks_7 : decode cX2_commonLocks 7 = .ok (.aload_n 0, 1) := by decide +kernel
theorem dX2_commonLocks_8 : decode cX2_commonLocks 8 = .ok (.getfield 49, 3) := by decide +kernel
theorem dX2_commonLocks_11 : decode cX2_commonLocks 11 = .ok (.getfield 133, 3) := by decide +kernel
theorem dX2_commonLocks_14 : decode cX2_commonLocks 14 = .ok (.ishl, 1) := by decide +kernel
theorem dX2_commonLocks_15 : decode cX2_commonLocks 15 = .ok (.iconst 1, 1) := by decide +kernel
theorem dX2_commonLocks_16 : decode cX2_commonLocks 16 = .ok (.isub, 1) := by decide +kernel
theorem dX2_commonLocks_17 : decode cX2_commonLocks 17 = .ok (.istore 4, 2) := by decide +kernel
theorem dX2_commonLocks_19 : decode cX2_commonLocks 19 = .ok (.iconst 0, 1) := by decide +kernel
theorem dX2_commonLocks_20 : decode cX2_commonLocks 20 = .ok (.istore 5, 2) := by decide +kernel
theorem dX2_commonLocks_22 : decode cX2_commonLocks 22 = .ok (.iload 5, 2) := by decide +kernel
theorem dX2_commonLocks_24 : decode cX2_commonLocks 24 = .ok (.iconst 1, 1) := by decide +kernel
theorem dX2_commonLocks_25 : decode cX2_commonLocks 25 = .ok (.aload_n 0, 1) := by decide +kernel
theorem dX2_commonLocks_26 : decode cX2_commonLocks 26 = .ok (.getfield 49, 3) := by decide +kernel
theorem dX2_commonLocks_29 : decode cX2_commonLocks 29 = .ok (.getfield 133, 3) := by decide +kernel
theorem dX2_commonLocks_32 : decode cX2_commonLocks 32 = .ok (.ishl, 1) := by decide +kernel
theorem dX2_commonLocks_33 : decode cX2_commonLocks 33 = .ok (.if_icmp .ge 27, 3) := by decide +kernel
theorem dX2_commonLocks_36 : decode cX2_commonLocks 36 = .ok (.lload_n 2, 1) := by decide +kernel
theorem dX2_commonLocks_37 : decode cX2_commonLocks 37 = .ok (.iload 5, 2) := by decide +kernel
theorem dX2_commonLocks_39 : decode cX2_commonLocks 39 = .ok (.lushr, 1) := by decide +kernel
theorem dX2_commonLocks_40 : decode cX2_commonLocks 40 = .ok (.lconst 1, 1) := by decide +kernel
theorem dX2_commonLocks_41 : decode cX2_commonLocks 41 = .ok (.land, 1) := by decide +kernel
theorem dX2_commonLocks_42 : decode cX2_commonLocks 42 = .ok (.lconst 0, 1) := by decide +kernel
theorem dX2_commonLocks_43 : decode cX2_commonLocks 43 = .ok (.lcmp, 1) := by decide +kernel
theorem dX2_commonLocks_44 : decode cX2_commonLocks 44 = .ok (.ifCond .eq 10, 3) := by decide +kernel
theorem dX2_commonLocks_47 : decode cX2_commonLocks 47 = .ok (.iload 4, 2) := by decide +kernel
theorem dX2_commonLocks_49 : decode cX2_commonLocks 49 = .ok (.iload 5, 2) := by decide +kernel
theorem dX2_commonLocks_51 : decode cX2_commonLocks 51 = .ok (.iand, 1) := by decide +kernel
theorem dX2_commonLocks_52 : decode cX2_commonLocks 52 = .ok (.istore 4, 2) := by decide +kernel
theorem dX2_commonLocks_54 : decode cX2_commonLocks 54 = .ok (.iinc 5 1, 3) := by decide +kernel
theorem dX2_commonLocks_57 : decode cX2_commonLocks 57 = .ok (.goto (-35), 3) := by decide +kernel
theorem dX2_commonLocks_60 : decode cX2_commonLocks 60 = .ok (.iload 4, 2) := by decide +kernel
theorem dX2_commonLocks_62 : decode cX2_commonLocks 62 = .ok (.ireturn, 1) := by decide +kernel
theorem dX2_isSafeAlone_0 : decode cX2_isSafeAlone 0 = .ok (.iconst 1, 1) := by decide +kernel
theorem dX2_isSafeAlone_1 : decode cX2_isSafeAlone 1 = .ok (.aload_n 0, 1) := by decide +kernel
theorem dX2_isSafeAlone_2 : decode cX2_isSafeAlone 2 = .ok (.getfield 49, 3) := by decide +kernel
theorem dX2_isSafeAlone_5 : decode cX2_isSafeAlone 5 = .ok (.getfield 81, 3) := by decide +kernel
theorem dX2_isSafeAlone_8 : decode cX2_isSafeAlone 8 = .ok (.ishl, 1) := by decide +kernel
theorem dX2_isSafeAlone_9 : decode cX2_isSafeAlone 9 = .ok (.iconst 1, 1) := by decide +kernel
theorem dX2_isSafeAlone_10 : decode cX2_isSafeAlone 10 = .ok (.isub, 1) := by decide +kernel
theorem dX2_isSafeAlone_11 : decode cX2_isSafeAlone 11 = .ok (.istore_n 3, 1) := by decide +kernel
theorem dX2_isSafeAlone_12 : decode cX2_isSafeAlone 12 = .ok (.aload_n 0, 1) := by decide +kernel
theorem dX2_isSafeAlone_13 : decode cX2_isSafeAlone 13 = .ok (.iload_n 3, 1) := by decide +kernel
theorem dX2_isSafeAlone_14 : decode cX2_isSafeAlone 14 = .ok (.iconst 1, 1) := by decide +kernel
theorem dX2_isSafeAlone_15 : decode cX2_isSafeAlone 15 = .ok (.iload_n 1, 1) := by decide +kernel
theorem dX2_isSafeAlone_16 : decode cX2_isSafeAlone 16 = .ok (.ishl, 1) := by decide +kernel
theorem dX2_isSafeAlone_17 : decode cX2_isSafeAlone 17 = .ok (.iconst (-1), 1) := by decide +kernel
theorem dX2_isSafeAlone_18 : decode cX2_isSafeAlone 18 = .ok (.ixor, 1) := by decide +kernel
theorem dX2_isSafeAlone_19 : decode cX2_isSafeAlone 19 = .ok (.iand, 1) := by decide +kernel
theorem dX2_isSafeAlone_20 : decode cX2_isSafeAlone 20 = .ok (.iload_n 2, 1) := by decide +kernel
theorem dX2_isSafeAlone_21 : decode cX2_isSafeAlone 21 = .ok (.invokevirtual 101, 3) := by decide +kernel
theorem dX2_isSafeAlone_24 : decode cX2_isSafeAlone 24 = .ok (.ireturn, 1) := by decide +kernel
theorem dX2_isSafeWith_0 : decode cX2_isSafeWith 0 = .ok (.aload_n 0, 1) := by decide +kernel
theorem dX2_isSafeWith_1 : decode cX2_isSafeWith 1 = .ok (.iload_n 1, 1) := by decide +kernel
theorem dX2_isSafeWith_2 : decode cX2_isSafeWith 2 = .ok (.aload_n 0, 1) := by decide +kernel
theorem dX2_isSafeWith_3 : decode cX2_isSafeWith 3 = .ok (.getfield 49, 3) := by decide +kernel
theorem dX2_isSafeWith_6 : decode cX2_isSafeWith 6 = .ok (.getfield 69, 3) := by decide +kernel
theorem dX2_isSafeWith_9 : decode cX2_isSafeWith 9 = .ok (.invokevirtual 72, 3) := by decide +kernel
theorem dX2_isSafeWith_12 : decode cX2_isSafeWith 12 = .ok (.aload_n 0, 1) := by decide +kernel
theorem dX2_isSafeWith_13 : decode cX2_isSafeWith 13 = .ok (.iload_n 2, 1) := by decide +kernel
theorem dX2_isSafeWith_14 : decode cX2_isSafeWith 14 = .ok (.invokevirtual 97, 3) := by decide +kernel
theorem dX2_isSafeWith_17 : decode cX2_isSafeWith 17 = .ok (.istore_n 3, 1) := by decide +kernel
theorem dX2_isSafeWith_18 : decode cX2_isSafeWith 18 = .ok (.aload_n 0, 1) := by decide +kernel
theorem dX2_isSafeWith_19 : decode cX2_isSafeWith 19 = .ok (.aload_n 0, 1) := by decide +kernel
theorem dX2_isSafeWith_20 : decode cX2_isSafeWith 20 = .ok (.getfield 49, 3) := by decide +kernel
theorem dX2_isSafeWith_23 : decode cX2_isSafeWith 23 = .ok (.getfield 66, 3) := by decide +kernel
theorem dX2_isSafeWith_26 : decode cX2_isSafeWith 26 = .ok (.aload_n 0, 1) := by decide +kernel
theorem dX2_isSafeWith_27 : decode cX2_isSafeWith 27 = .ok (.getfield 49, 3) := by decide +kernel
theorem dX2_isSafeWith_30 : decode cX2_isSafeWith 30 = .ok (.getfield 69, 3) := by decide +kernel
theorem dX2_isSafeWith_33 : decode cX2_isSafeWith 33 = .ok (.invokevirtual 72, 3) := by decide +kernel
theorem dX2_isSafeWith_36 : decode cX2_isSafeWith 36 = .ok (.iload_n 3, 1) := by decide +kernel
theorem dX2_isSafeWith_37 : decode cX2_isSafeWith 37 = .ok (.ireturn, 1) := by decide +kernel
theorem dX2_leastLocks_0 : decode cX2_leastLocks 0 = .ok (.aload_n 0, 1) := by decide +kernel
theorem dX2_leastLocks_1 : decode cX2_leastLocks 1 = .ok (.iload_n 1, 1) := by decide +kernel
theorem dX2_leastLocks_2 : decode cX2_leastLocks 2 = .ok (.invokevirtual 176, 3) := by decide +kernel
theorem dX2_leastLocks_5 : decode cX2_leastLocks 5 = .ok (.lstore_n 2, 1) := by decide +kernel
theorem dX2_leastLocks_6 : decode cX2_leastLocks 6 = .ok (.iconst (-1), 1) := by decide +kernel
theorem dX2_leastLocks_7 : decode cX2_leastLocks 7 = .ok (.istore 4, 2) := by decide +kernel
theorem dX2_leastLocks_9 : decode cX2_leastLocks 9 = .ok (.bipush 6, 2) := by decide +kernel
theorem dX2_leastLocks_11 : decode cX2_leastLocks 11 = .ok (.istore 5, 2) := by decide +kernel
theorem dX2_leastLocks_13 : decode cX2_leastLocks 13 = .ok (.iconst 0, 1) := by decide +kernel
theorem dX2_leastLocks_14 : decode cX2_leastLocks 14 = .ok (.istore 6, 2) := by decide +kernel
theorem dX2_leastLocks_16 : decode cX2_leastLocks 16 = .ok (.iload 6, 2) := by decide +kernel
theorem dX2_leastLocks_18 : decode cX2_leastLocks 18 = .ok (.iconst 1, 1) := by decide +kernel
theorem dX2_leastLocks_19 : decode cX2_leastLocks 19 = .ok (.aload_n 0, 1) := by decide +kernel
theorem dX2_leastLocks_20 : decode cX2_leastLocks 20 = .ok (.getfield 49, 3) := by decide +kernel
theorem dX2_leastLocks_23 : decode cX2_leastLocks 23 = .ok (.getfield 133, 3) := by decide +kernel
theorem dX2_leastLocks_26 : decode cX2_leastLocks 26 = .ok (.ishl, 1) := by decide +kernel
theorem dX2_leastLocks_27 : decode cX2_leastLocks 27 = .ok (.if_icmp .ge 41, 3) := by decide +kernel
theorem dX2_leastLocks_30 : decode cX2_leastLocks 30 = .ok (.lload_n 2, 1) := by decide +kernel
theorem dX2_leastLocks_31 : decode cX2_leastLocks 31 = .ok (.iload 6, 2) := by decide +kernel
theorem dX2_leastLocks_33 : decode cX2_leastLocks 33 = .ok (.lushr, 1) := by decide +kernel
theorem dX2_leastLocks_34 : decode cX2_leastLocks 34 = .ok (.lconst 1, 1) := by decide +kernel
theorem dX2_leastLocks_35 : decode cX2_leastLocks 35 = .ok (.land, 1) := by decide +kernel
theorem dX2_leastLocks_36 : decode cX2_leastLocks 36 = .ok (.lconst 0, 1) := by decide +kernel
theorem dX2_leastLocks_37 : decode cX2_leastLocks 37 = .ok (.lcmp, 1) := by decide +kernel
theorem dX2_leastLocks_38 : decode cX2_leastLocks 38 = .ok (.ifCond .eq 24, 3) := by decide +kernel
theorem dX2_leastLocks_41 : decode cX2_leastLocks 41 = .ok (.iload 6, 2) := by decide +kernel
theorem dX2_leastLocks_43 : decode cX2_leastLocks 43 = .ok (.invokestatic 180, 3) := by decide +kernel
theorem dX2_leastLocks_46 : decode cX2_leastLocks 46 = .ok (.iload 5, 2) := by decide +kernel
theorem dX2_leastLocks_48 : decode cX2_leastLocks 48 = .ok (.if_icmp .ge 14, 3) := by decide +kernel
theorem dX2_leastLocks_51 : decode cX2_leastLocks 51 = .ok (.iload 6, 2) := by decide +kernel
theorem dX2_leastLocks_53 : decode cX2_leastLocks 53 = .ok (.invokestatic 180, 3) := by decide +kernel
theorem dX2_leastLocks_56 : decode cX2_leastLocks 56 = .ok (.istore 5, 2) := by decide +kernel
theorem dX2_leastLocks_58 : decode cX2_leastLocks 58 = .ok (.iload 6, 2) := by decide +kernel
theorem dX2_leastLocks_60 : decode cX2_leastLocks 60 = .ok (.istore 4, 2) := by decide +kernel
theorem dX2_leastLocks_62 : decode cX2_leastLocks 62 = .ok (.iinc 6 1, 3) := by decide +kernel
theorem dX2_leastLocks_65 : decode cX2_leastLocks 65 = .ok (.goto (-49), 3) := by decide +kernel
theorem dX2_leastLocks_68 : decode cX2_leastLocks 68 = .ok (.iload 4, 2) := by decide +kernel
theorem dX2_leastLocks_70 : decode cX2_leastLocks 70 = .ok (.ireturn, 1) := by decide +kernel
theorem dX2_safeLocks_0 : decode cX2_safeLocks 0 = .ok (.lconst 1, 1) := by decide +kernel
theorem dX2_safeLocks_1 : decode cX2_safeLocks 1 = .ok (.iconst 1, 1) := by decide +kernel
theorem dX2_safeLocks_2 : decode cX2_safeLocks 2 = .ok (.aload_n 0, 1) := by decide +kernel
theorem dX2_safeLocks_3 : decode cX2_safeLocks 3 = .ok (.getfield 49, 3) := by decide +kernel
theorem dX2_safeLocks_6 : decode cX2_safeLocks 6 = .ok (.getfield 133, 3) := by decide +kernel
theorem dX2_safeLocks_9 : decode cX2_safeLocks 9 = .ok (.ishl, 1) := by decide +kernel
theorem dX2_safeLocks_10 : decode cX2_safeLocks 10 = .ok (.lshl, 1) := by decide +kernel
theorem dX2_safeLocks_11 : decode cX2_safeLocks 11 = .ok (.lconst 1, 1) := by decide +kernel
theorem dX2_safeLocks_12 : decode cX2_safeLocks 12 = .ok (.lsub, 1) := by decide +kernel
theorem dX2_safeLocks_13 : decode cX2_safeLocks 13 = .ok (.lstore_n 2, 1) := by decide +kernel
theorem dX2_safeLocks_14 : decode cX2_safeLocks 14 = .ok (.iconst 0, 1) := by decide +kernel
theorem dX2_safeLocks_15 : decode cX2_safeLocks 15 = .ok (.istore 4, 2) := by decide +kernel
theorem dX2_safeLocks_17 : decode cX2_safeLocks 17 = .ok (.iload 4, 2) := by decide +kernel
theorem dX2_safeLocks_19 : decode cX2_safeLocks 19 = .ok (.aload_n 0, 1) := by decide +kernel
theorem dX2_safeLocks_20 : decode cX2_safeLocks 20 = .ok (.getfield 53, 3) := by decide +kernel
theorem dX2_safeLocks_23 : decode cX2_safeLocks 23 = .ok (.getfield 117, 3) := by decide +kernel
theorem dX2_safeLocks_26 : decode cX2_safeLocks 26 = .ok (.if_icmp .ge 99, 3) := by decide +kernel
theorem dX2_safeLocks_29 : decode cX2_safeLocks 29 = .ok (.aload_n 0, 1) := by decide +kernel
theorem dX2_safeLocks_30 : decode cX2_safeLocks 30 = .ok (.iload 4, 2) := by decide +kernel
theorem dX2_safeLocks_32 : decode cX2_safeLocks 32 = .ok (.invokevirtual 140, 3) := by decide +kernel
theorem dX2_safeLocks_35 : decode cX2_safeLocks 35 = .ok (.ifCond .eq 84, 3) := by decide +kernel
theorem dX2_safeLocks_38 : decode cX2_safeLocks 38 = .ok (.aload_n 0, 1) := by decide +kernel
theorem dX2_safeLocks_39 : decode cX2_safeLocks 39 = .ok (.iload 4, 2) := by decide +kernel
theorem dX2_safeLocks_41 : decode cX2_safeLocks 41 = .ok (.iload_n 1, 1) := by decide +kernel
theorem dX2_safeLocks_42 : decode cX2_safeLocks 42 = .ok (.iconst 0, 1) := by decide +kernel
theorem dX2_safeLocks_43 : decode cX2_safeLocks 43 = .ok (.invokevirtual 149, 3) := by decide +kernel
theorem dX2_safeLocks_46 : decode cX2_safeLocks 46 = .ok (.lstore 5, 2) := by decide +kernel
theorem dX2_safeLocks_48 : decode cX2_safeLocks 48 = .ok (.aload_n 0, 1) := by decide +kernel
theorem dX2_safeLocks_49 : decode cX2_safeLocks 49 = .ok (.iload 4, 2) := by decide +kernel
theorem dX2_safeLocks_51 : decode cX2_safeLocks 51 = .ok (.lload 5, 2) := by decide +kernel
theorem dX2_safeLocks_53 : decode cX2_safeLocks 53 = .ok (.lload 5, 2) := by decide +kernel
theorem dX2_safeLocks_55 : decode cX2_safeLocks 55 = .ok (.invokevirtual 159, 3) := by decide +kernel
theorem dX2_safeLocks_58 : decode cX2_safeLocks 58 = .ok (.iconst 0, 1) := by decide +kernel
theorem dX2_safeLocks_59 : decode cX2_safeLocks 59 = .ok (.istore 7, 2) := by decide +kernel
theorem dX2_safeLocks_61 : decode cX2_safeLocks 61 = .ok (.iload 7, 2) := by decide +kernel
theorem dX2_safeLocks_63 : decode cX2_safeLocks 63 = .ok (.iconst 1, 1) := by decide +kernel
theorem dX2_safeLocks_64 : decode cX2_safeLocks 64 = .ok (.aload_n 0, 1) := by decide +kernel
theorem dX2_safeLocks_65 : decode cX2_safeLocks 65 = .ok (.getfield 49, 3) := by decide +kernel
theorem dX2_safeLocks_68 : decode cX2_safeLocks 68 = .ok (.getfield 133, 3) := by decide +kernel
theorem dX2_safeLocks_71 : decode cX2_safeLocks 71 = .ok (.ishl, 1) := by decide +kernel
theorem dX2_safeLocks_72 : decode cX2_safeLocks 72 = .ok (.if_icmp .ge 47, 3) := by decide +kernel
theorem dX2_safeLocks_75 : decode cX2_safeLocks 75 = .ok (.lload_n 2, 1) := by decide +kernel
theorem dX2_safeLocks_76 : decode cX2_safeLocks 76 = .ok (.iload 7, 2) := by decide +kernel
theorem dX2_safeLocks_78 : decode cX2_safeLocks 78 = .ok (.lushr, 1) := by decide +kernel
theorem dX2_safeLocks_79 : decode cX2_safeLocks 79 = .ok (.lconst 1, 1) := by decide +kernel
theorem dX2_safeLocks_80 : decode cX2_safeLocks 80 = .ok (.land, 1) := by decide +kernel
theorem dX2_safeLocks_81 : decode cX2_safeLocks 81 = .ok (.lconst 0, 1) := by decide +kernel
theorem dX2_safeLocks_82 : decode cX2_safeLocks 82 = .ok (.lcmp, 1) := by decide +kernel
theorem dX2_safeLocks_83 : decode cX2_safeLocks 83 = .ok (.ifCond .eq 30, 3) := by decide +kernel
theorem dX2_safeLocks_86 : decode cX2_safeLocks 86 = .ok (.aload_n 0, 1) := by decide +kernel
theorem dX2_safeLocks_87 : decode cX2_safeLocks 87 = .ok (.aload_n 0, 1) := by decide +kernel
theorem dX2_safeLocks_88 : decode cX2_safeLocks 88 = .ok (.iload 4, 2) := by decide +kernel
theorem dX2_safeLocks_90 : decode cX2_safeLocks 90 = .ok (.iload_n 1, 1) := by decide +kernel
theorem dX2_safeLocks_91 : decode cX2_safeLocks 91 = .ok (.iload 7, 2) := by decide +kernel
theorem dX2_safeLocks_93 : decode cX2_safeLocks 93 = .ok (.invokevirtual 149, 3) := by decide +kernel
theorem dX2_safeLocks_96 : decode cX2_safeLocks 96 = .ok (.invokevirtual 184, 3) := by decide +kernel
theorem dX2_safeLocks_99 : decode cX2_safeLocks 99 = .ok (.ifCond .eq 14, 3) := by decide +kernel
theorem dX2_safeLocks_102 : decode cX2_safeLocks 102 = .ok (.lload_n 2, 1) := by decide +kernel
theorem dX2_safeLocks_103 : decode cX2_safeLocks 103 = .ok (.lconst 1, 1) := by decide +kernel
theorem dX2_safeLocks_104 : decode cX2_safeLocks 104 = .ok (.iload 7, 2) := by decide +kernel
theorem dX2_safeLocks_106 : decode cX2_safeLocks 106 = .ok (.lshl, 1) := by decide +kernel
theorem dX2_safeLocks_107 : decode cX2_safeLocks 107 = .ok (.ldc2_w 122, 3) := by decide +kernel
theorem dX2_safeLocks_110 : decode cX2_safeLocks 110 = .ok (.lxor, 1) := by decide +kernel
theorem dX2_safeLocks_111 : decode cX2_safeLocks 111 = .ok (.land, 1) := by decide +kernel
theorem dX2_safeLocks_112 : decode cX2_safeLocks 112 = .ok (.lstore_n 2, 1) := by decide +kernel
theorem dX2_safeLocks_113 : decode cX2_safeLocks 113 = .ok (.iinc 7 1, 3) := by decide +kernel
theorem dX2_safeLocks_116 : decode cX2_safeLocks 116 = .ok (.goto (-55), 3) := by decide +kernel
theorem dX2_safeLocks_119 : decode cX2_safeLocks 119 = .ok (.iinc 4 1, 3) := by decide +kernel
theorem dX2_safeLocks_122 : decode cX2_safeLocks 122 = .ok (.goto (-105), 3) := by decide +kernel
theorem dX2_safeLocks_125 : decode cX2_safeLocks 125 = .ok (.lload_n 2, 1) := by decide +kernel
theorem dX2_safeLocks_126 : decode cX2_safeLocks 126 = .ok (.lreturn, 1) := by decide +kernel
theorem dX2_totalBy_0 : decode cX2_totalBy 0 = .ok (.aload_n 0, 1) := by decide +kernel
theorem dX2_totalBy_1 : decode cX2_totalBy 1 = .ok (.getfield 12, 3) := by decide +kernel
theorem dX2_totalBy_4 : decode cX2_totalBy 4 = .ok (.aload_n 0, 1) := by decide +kernel
theorem dX2_totalBy_5 : decode cX2_totalBy 5 = .ok (.getfield 49, 3) := by decide +kernel
theorem dX2_totalBy_8 : decode cX2_totalBy 8 = .ok (.aload_n 0, 1) := by decide +kernel
theorem dX2_totalBy_9 : decode cX2_totalBy 9 = .ok (.getfield 53, 3) := by decide +kernel
theorem dX2_totalBy_12 : decode cX2_totalBy 12 = .ok (.iload_n 1, 1) := by decide +kernel
theorem dX2_totalBy_13 : decode cX2_totalBy 13 = .ok (.invokevirtual 62, 3) := by decide +kernel
theorem dX2_totalBy_16 : decode cX2_totalBy 16 = .ok (.aload_n 0, 1) := by decide +kernel
theorem dX2_totalBy_17 : decode cX2_totalBy 17 = .ok (.iconst 1, 1) := by decide +kernel
theorem dX2_totalBy_18 : decode cX2_totalBy 18 = .ok (.invokevirtual 93, 3) := by decide +kernel
theorem dX2_totalBy_21 : decode cX2_totalBy 21 = .ok (.istore_n 2, 1) := by decide +kernel
theorem dX2_totalBy_22 : decode cX2_totalBy 22 = .ok (.aload_n 0, 1) := by decide +kernel
theorem dX2_totalBy_23 : decode cX2_totalBy 23 = .ok (.getfield 12, 3) := by decide +kernel
theorem dX2_totalBy_26 : decode cX2_totalBy 26 = .ok (.aload_n 0, 1) := by decide +kernel
theorem dX2_totalBy_27 : decode cX2_totalBy 27 = .ok (.getfield 49, 3) := by decide +kernel
theorem dX2_totalBy_30 : decode cX2_totalBy 30 = .ok (.aload_n 0, 1) := by decide +kernel
theorem dX2_totalBy_31 : decode cX2_totalBy 31 = .ok (.getfield 53, 3) := by decide +kernel
theorem dX2_totalBy_34 : decode cX2_totalBy 34 = .ok (.aload_n 0, 1) := by decide +kernel
theorem dX2_totalBy_35 : decode cX2_totalBy 35 = .ok (.getfield 49, 3) := by decide +kernel
theorem dX2_totalBy_38 : decode cX2_totalBy 38 = .ok (.getfield 57, 3) := by decide +kernel
theorem dX2_totalBy_41 : decode cX2_totalBy 41 = .ok (.invokevirtual 62, 3) := by decide +kernel
theorem dX2_totalBy_44 : decode cX2_totalBy 44 = .ok (.iload_n 2, 1) := by decide +kernel
theorem dX2_totalBy_45 : decode cX2_totalBy 45 = .ok (.ireturn, 1) := by decide +kernel
theorem dX2_totalOf_0 : decode cX2_totalOf 0 = .ok (.aload_n 0, 1) := by decide +kernel
theorem dX2_totalOf_1 : decode cX2_totalOf 1 = .ok (.getfield 12, 3) := by decide +kernel
theorem dX2_totalOf_4 : decode cX2_totalOf 4 = .ok (.aload_n 0, 1) := by decide +kernel
theorem dX2_totalOf_5 : decode cX2_totalOf 5 = .ok (.getfield 53, 3) := by decide +kernel
theorem dX2_totalOf_8 : decode cX2_totalOf 8 = .ok (.iload_n 1, 1) := by decide +kernel
theorem dX2_totalOf_9 : decode cX2_totalOf 9 = .ok (.iload_n 2, 1) := by decide +kernel
theorem dX2_totalOf_10 : decode cX2_totalOf 10 = .ok (.aload_n 0, 1) := by decide +kernel
theorem dX2_totalOf_11 : decode cX2_totalOf 11 = .ok (.getfield 49, 3) := by decide +kernel
theorem dX2_totalOf_14 : decode cX2_totalOf 14 = .ok (.getfield 57, 3) := by decide +kernel
theorem dX2_totalOf_17 : decode cX2_totalOf 17 = .ok (.invokevirtual 105, 3) := by decide +kernel
theorem dX2_totalOf_20 : decode cX2_totalOf 20 = .ok (.aload_n 0, 1) := by decide +kernel
theorem dX2_totalOf_21 : decode cX2_totalOf 21 = .ok (.iconst 1, 1) := by decide +kernel
theorem dX2_totalOf_22 : decode cX2_totalOf 22 = .ok (.invokevirtual 93, 3) := by decide +kernel
theorem dX2_totalOf_25 : decode cX2_totalOf 25 = .ok (.istore_n 3, 1) := by decide +kernel
theorem dX2_totalOf_26 : decode cX2_totalOf 26 = .ok (.aload_n 0, 1) := by decide +kernel
theorem dX2_totalOf_27 : decode cX2_totalOf 27 = .ok (.getfield 12, 3) := by decide +kernel
theorem dX2_totalOf_30 : decode cX2_totalOf 30 = .ok (.aload_n 0, 1) := by decide +kernel
theorem dX2_totalOf_31 : decode cX2_totalOf 31 = .ok (.getfield 49, 3) := by decide +kernel
theorem dX2_totalOf_34 : decode cX2_totalOf 34 = .ok (.aload_n 0, 1) := by decide +kernel
theorem dX2_totalOf_35 : decode cX2_totalOf 35 = .ok (.getfield 53, 3) := by decide +kernel
theorem dX2_totalOf_38 : decode cX2_totalOf 38 = .ok (.aload_n 0, 1) := by decide +kernel
theorem dX2_totalOf_39 : decode cX2_totalOf 39 = .ok (.getfield 49, 3) := by decide +kernel
theorem dX2_totalOf_42 : decode cX2_totalOf 42 = .ok (.getfield 57, 3) := by decide +kernel
theorem dX2_totalOf_45 : decode cX2_totalOf 45 = .ok (.invokevirtual 62, 3) := by decide +kernel
theorem dX2_totalOf_48 : decode cX2_totalOf 48 = .ok (.iload_n 3, 1) := by decide +kernel
theorem dX2_totalOf_49 : decode cX2_totalOf 49 = .ok (.ireturn, 1) := by decide +kernel
theorem dX2_totalWith_0 : decode cX2_totalWith 0 = .ok (.aload_n 0, 1) := by decide +kernel
theorem dX2_totalWith_1 : decode cX2_totalWith 1 = .ok (.iload_n 1, 1) := by decide +kernel
theorem dX2_totalWith_2 : decode cX2_totalWith 2 = .ok (.iload_n 2, 1) := by decide +kernel
theorem dX2_totalWith_3 : decode cX2_totalWith 3 = .ok (.invokevirtual 72, 3) := by decide +kernel
theorem dX2_totalWith_6 : decode cX2_totalWith 6 = .ok (.aload_n 0, 1) := by decide +kernel
theorem dX2_totalWith_7 : decode cX2_totalWith 7 = .ok (.iconst 1, 1) := by decide +kernel
theorem dX2_totalWith_8 : decode cX2_totalWith 8 = .ok (.invokevirtual 93, 3) := by decide +kernel
theorem dX2_totalWith_11 : decode cX2_totalWith 11 = .ok (.istore_n 3, 1) := by decide +kernel
theorem dX2_totalWith_12 : decode cX2_totalWith 12 = .ok (.aload_n 0, 1) := by decide +kernel
theorem dX2_totalWith_13 : decode cX2_totalWith 13 = .ok (.aload_n 0, 1) := by decide +kernel
theorem dX2_totalWith_14 : decode cX2_totalWith 14 = .ok (.getfield 49, 3) := by decide +kernel
theorem dX2_totalWith_17 : decode cX2_totalWith 17 = .ok (.getfield 66, 3) := by decide +kernel
theorem dX2_totalWith_20 : decode cX2_totalWith 20 = .ok (.aload_n 0, 1) := by decide +kernel
theorem dX2_totalWith_21 : decode cX2_totalWith 21 = .ok (.getfield 49, 3) := by decide +kernel
theorem dX2_totalWith_24 : decode cX2_totalWith 24 = .ok (.getfield 69, 3) := by decide +kernel
theorem dX2_totalWith_27 : decode cX2_totalWith 27 = .ok (.invokevirtual 72, 3) := by decide +kernel
theorem dX2_totalWith_30 : decode cX2_totalWith 30 = .ok (.iload_n 3, 1) := by decide +kernel
theorem dX2_totalWith_31 : decode cX2_totalWith 31 = .ok (.ireturn, 1) := by decide +kernel
theorem dX2_validsWith_0 : decode cX2_validsWith 0 = .ok (.aload_n 0, 1) := by decide +kernel
theorem dX2_validsWith_1 : decode cX2_validsWith 1 = .ok (.iload_n 1, 1) := by decide +kernel
theorem dX2_validsWith_2 : decode cX2_validsWith 2 = .ok (.aload_n 0, 1) := by decide +kernel
theorem dX2_validsWith_3 : decode cX2_validsWith 3 = .ok (.getfield 49, 3) := by decide +kernel
theorem dX2_validsWith_6 : decode cX2_validsWith 6 = .ok (.getfield 69, 3) := by decide +kernel
theorem dX2_validsWith_9 : decode cX2_validsWith 9 = .ok (.invokevirtual 72, 3) := by decide +kernel
theorem dX2_validsWith_12 : decode cX2_validsWith 12 = .ok (.aload_n 0, 1) := by decide +kernel
theorem dX2_validsWith_13 : decode cX2_validsWith 13 = .ok (.getfield 25, 3) := by decide +kernel
theorem dX2_validsWith_16 : decode cX2_validsWith 16 = .ok (.invokestatic 87, 3) := by decide +kernel
theorem dX2_validsWith_19 : decode cX2_validsWith 19 = .ok (.istore_n 2, 1) := by decide +kernel
theorem dX2_validsWith_20 : decode cX2_validsWith 20 = .ok (.aload_n 0, 1) := by decide +kernel
theorem dX2_validsWith_21 : decode cX2_validsWith 21 = .ok (.aload_n 0, 1) := by decide +kernel
theorem dX2_validsWith_22 : decode cX2_validsWith 22 = .ok (.getfield 49, 3) := by decide +kernel
theorem dX2_validsWith_25 : decode cX2_validsWith 25 = .ok (.getfield 66, 3) := by decide +kernel
theorem dX2_validsWith_28 : decode cX2_validsWith 28 = .ok (.aload_n 0, 1) := by decide +kernel
theorem dX2_validsWith_29 : decode cX2_validsWith 29 = .ok (.getfield 49, 3) := by decide +kernel
theorem dX2_validsWith_32 : decode cX2_validsWith 32 = .ok (.getfield 69, 3) := by decide +kernel
theorem dX2_validsWith_35 : decode cX2_validsWith 35 = .ok (.invokevirtual 72, 3) := by decide +kernel
theorem dX2_validsWith_38 : decode cX2_validsWith 38 = .ok (.iload_n 2, 1) := by decide +kernel
theorem dX2_validsWith_39 : decode cX2_validsWith 39 = .ok (.ireturn, 1) := by decide +kernel
theorem iuX2_commonLocks_X0 : ∀ w ∈ u_ws RX0 TX0 15, w ∈ W_X2_commonLocks := fun w h => List.mem_cons_of_mem _ (List.mem_append_right _ (List.mem_append_right _ (List.mem_append_left _ (h))))
theorem iuX2_commonLocks_X2 : ∀ w ∈ u_ws RX2 TX2 12, w ∈ W_X2_commonLocks := fun w h => List.mem_cons_of_mem _ (List.mem_append_right _ (List.mem_append_left _ (h)))
theorem iuX2_isSafeAlone_X0 : ∀ w ∈ u_ws RX0 TX0 15, w ∈ W_X2_isSafeAlone := fun w h => List.mem_cons_of_mem _ (List.mem_append_right _ (List.mem_append_right _ (List.mem_append_left _ (h))))
theorem iuX2_isSafeAlone_X2 : ∀ w ∈ u_ws RX2 TX2 12, w ∈ W_X2_isSafeAlone := fun w h => List.mem_cons_of_mem _ (List.mem_append_right _ (List.mem_append_left _ (h)))
theorem iuX2_isSafeWith_X0 : ∀ w ∈ u_ws RX0 TX0 15, w ∈ W_X2_isSafeWith := fun w h => List.mem_cons_of_mem _ (List.mem_append_right _ (List.mem_append_right _ (List.mem_append_left _ (h))))
theorem iuX2_isSafeWith_X2 : ∀ w ∈ u_ws RX2 TX2 12, w ∈ W_X2_isSafeWith := fun w h => List.mem_cons_of_mem _ (List.mem_append_right _ (List.mem_append_left _ (h)))
theorem iuX2_leastLocks_X0 : ∀ w ∈ u_ws RX0 TX0 15, w ∈ W_X2_leastLocks := fun w h => List.mem_cons_of_mem _ (List.mem_append_right _ (List.mem_append_right _ (List.mem_append_left _ (h))))
theorem iuX2_leastLocks_X2 : ∀ w ∈ u_ws RX2 TX2 12, w ∈ W_X2_leastLocks := fun w h => List.mem_cons_of_mem _ (List.mem_append_right _ (List.mem_append_left _ (h)))
theorem iuX2_safeLocks_X0 : ∀ w ∈ u_ws RX0 TX0 15, w ∈ W_X2_safeLocks := fun w h => List.mem_cons_of_mem _ (List.mem_append_right _ (List.mem_append_right _ (List.mem_append_left _ (h))))
theorem iuX2_safeLocks_X2 : ∀ w ∈ u_ws RX2 TX2 12, w ∈ W_X2_safeLocks := fun w h => List.mem_cons_of_mem _ (List.mem_append_right _ (List.mem_append_left _ (h)))
theorem iuX2_safeLocks_X6 : ∀ w ∈ u_ws RX6 TX6 8, w ∈ W_X2_safeLocks := fun w h => List.mem_cons_of_mem _ (List.mem_append_right _ (List.mem_append_right _ (List.mem_append_right _ (List.mem_append_left _ (h)))))
theorem iuX2_totalBy_X0 : ∀ w ∈ u_ws RX0 TX0 15, w ∈ W_X2_totalBy := fun w h => List.mem_cons_of_mem _ (List.mem_append_right _ (List.mem_append_right _ (List.mem_append_left _ (h))))
theorem iuX2_totalBy_X2 : ∀ w ∈ u_ws RX2 TX2 12, w ∈ W_X2_totalBy := fun w h => List.mem_cons_of_mem _ (List.mem_append_right _ (List.mem_append_left _ (h)))
theorem iuX2_totalOf_X0 : ∀ w ∈ u_ws RX0 TX0 15, w ∈ W_X2_totalOf := fun w h => List.mem_cons_of_mem _ (List.mem_append_right _ (List.mem_append_right _ (List.mem_append_left _ (h))))
theorem iuX2_totalOf_X2 : ∀ w ∈ u_ws RX2 TX2 12, w ∈ W_X2_totalOf := fun w h => List.mem_cons_of_mem _ (List.mem_append_right _ (List.mem_append_left _ (h)))
theorem iuX2_totalWith_X0 : ∀ w ∈ u_ws RX0 TX0 15, w ∈ W_X2_totalWith := fun w h => List.mem_cons_of_mem _ (List.mem_append_right _ (List.mem_append_right _ (List.mem_append_left _ (h))))
theorem iuX2_totalWith_X2 : ∀ w ∈ u_ws RX2 TX2 12, w ∈ W_X2_totalWith := fun w h => List.mem_cons_of_mem _ (List.mem_append_right _ (List.mem_append_left _ (h)))
theorem iuX2_validsWith_X0 : ∀ w ∈ u_ws RX0 TX0 15, w ∈ W_X2_validsWith := fun w h => List.mem_cons_of_mem _ (List.mem_append_right _ (List.mem_append_right _ (List.mem_append_left _ (h))))
theorem iuX2_validsWith_X2 : ∀ w ∈ u_ws RX2 TX2 12, w ∈ W_X2_validsWith := fun w h => List.mem_cons_of_mem _ (List.mem_append_right _ (List.mem_append_left _ (h)))
theorem gw_X2_commonLocks_X2_safeLocks : GoodIn W_X2_commonLocks W_X2_safeLocks := fun w h => ⟨List.mem_cons_of_mem _ (List.mem_append_right _ (List.mem_append_right _ (List.mem_append_right _ (h)))), (wI_X2_safeLocks w h).2⟩
theorem gc_X2_commonLocks_176_X2_safeLocks : GoodIn W_X2_commonLocks (wsV RX2 176 RX2 yX2_safeLocks W_X2_safeLocks) := goodIn_app (goodIn_sub (List.forall_mem_cons.mpr ⟨List.mem_cons_of_mem _ (List.mem_append_left _ (List.mem_of_getElem? (i := 0) rfl)), List.forall_mem_cons.mpr ⟨List.mem_cons_of_mem _ (List.mem_append_left _ (List.mem_of_getElem? (i := 1) rfl)), List.forall_mem_cons.mpr ⟨List.mem_cons_of_mem _ (List.mem_append_left _ (List.mem_of_getElem? (i := 2) rfl)), List.forall_mem_cons.mpr ⟨List.mem_cons_of_mem _ (List.mem_append_left _ (List.mem_of_getElem? (i := 3) rfl)), fun _ h => absurd h List.not_mem_nil⟩⟩⟩⟩) (by decide +kernel)) gw_X2_commonLocks_X2_safeLocks
theorem gw_X2_isSafeAlone_X2_isSafeWith : GoodIn W_X2_isSafeAlone W_X2_isSafeWith := fun w h => ⟨List.mem_cons_of_mem _ (List.mem_append_right _ (List.mem_append_right _ (List.mem_append_right _ (h)))), (wI_X2_isSafeWith w h).2⟩
theorem gc_X2_isSafeAlone_101_X2_isSafeWith : GoodIn W_X2_isSafeAlone (wsV RX2 101 RX2 yX2_isSafeWith W_X2_isSafeWith) := goodIn_app (goodIn_sub (List.forall_mem_cons.mpr ⟨List.mem_cons_of_mem _ (List.mem_append_left _ (List.mem_of_getElem? (i := 2) rfl)), List.forall_mem_cons.mpr ⟨List.mem_cons_of_mem _ (List.mem_append_left _ (List.mem_of_getElem? (i := 3) rfl)), List.forall_mem_cons.mpr ⟨List.mem_cons_of_mem _ (List.mem_append_left _ (List.mem_of_getElem? (i := 4) rfl)), List.forall_mem_cons.mpr ⟨List.mem_cons_of_mem _ (List.mem_append_left _ (List.mem_of_getElem? (i := 5) rfl)), fun _ h => absurd h List.not_mem_nil⟩⟩⟩⟩) (by decide +kernel)) gw_X2_isSafeAlone_X2_isSafeWith
theorem gw_X2_isSafeWith_X2_suppose : GoodIn W_X2_isSafeWith W_X2_suppose := fun w h => ⟨List.mem_cons_of_mem _ (List.mem_append_right _ (List.mem_append_right _ (List.mem_append_right _ (List.mem_append_left _ (h))))), (wI_X2_suppose w h).2⟩
theorem gc_X2_isSafeWith_72_X2_suppose : GoodIn W_X2_isSafeWith (wsV RX2 72 RX2 yX2_suppose W_X2_suppose) := goodIn_app (goodIn_sub (List.forall_mem_cons.mpr ⟨List.mem_cons_of_mem _ (List.mem_append_left _ (List.mem_of_getElem? (i := 2) rfl)), List.forall_mem_cons.mpr ⟨List.mem_cons_of_mem _ (List.mem_append_left _ (List.mem_of_getElem? (i := 3) rfl)), List.forall_mem_cons.mpr ⟨List.mem_cons_of_mem _ (List.mem_append_left _ (List.mem_of_getElem? (i := 4) rfl)), List.forall_mem_cons.mpr ⟨List.mem_cons_of_mem _ (List.mem_append_left _ (List.mem_of_getElem? (i := 5) rfl)), fun _ h => absurd h List.not_mem_nil⟩⟩⟩⟩) (by decide +kernel)) gw_X2_isSafeWith_X2_suppose
theorem gw_X2_isSafeWith_X2_isSafe : GoodIn W_X2_isSafeWith W_X2_isSafe := fun w h => ⟨List.mem_cons_of_mem _ (List.mem_append_right _ (List.mem_append_right _ (List.mem_append_right _ (List.mem_append_right _ (h))))), (wI_X2_isSafe w h).2⟩
theorem gc_X2_isSafeWith_97_X2_isSafe : GoodIn W_X2_isSafeWith (wsV RX2 97 RX2 yX2_isSafe W_X2_isSafe) := goodIn_app (goodIn_sub (List.forall_mem_cons.mpr ⟨List.mem_cons_of_mem _ (List.mem_append_left _ (List.mem_of_getElem? (i := 6) rfl)), List.forall_mem_cons.mpr ⟨List.mem_cons_of_mem _ (List.mem_append_left _ (List.mem_of_getElem? (i := 7) rfl)), List.forall_mem_cons.mpr ⟨List.mem_cons_of_mem _ (List.mem_append_left _ (List.mem_of_getElem? (i := 8) rfl)), List.forall_mem_cons.mpr ⟨List.mem_cons_of_mem _ (List.mem_append_left _ (List.mem_of_getElem? (i := 5) rfl)), fun _ h => absurd h List.not_mem_nil⟩⟩⟩⟩) (by decide +kernel)) gw_X2_isSafeWith_X2_isSafe
theorem gw_X2_leastLocks_J6_bitCount_0f7a4 : GoodIn W_X2_leastLocks W_J6_bitCount_0f7a4 := fun w h => ⟨List.mem_cons_of_mem _ (List.mem_append_right _ (List.mem_append_right _ (List.mem_append_right _ (List.mem_append_right _ (h))))), (wI_J6_bitCount_0f7a4 w h).2⟩
theorem gc_X2_leastLocks_180_J6_bitCount_0f7a4 : GoodIn W_X2_leastLocks (va_wsS RX2 180 yJ6_bitCount_0f7a4 W_J6_bitCount_0f7a4) := goodIn_app (goodIn_sub (List.forall_mem_cons.mpr ⟨List.mem_cons_of_mem _ (List.mem_append_left _ (List.mem_of_getElem? (i := 6) rfl)), List.forall_mem_cons.mpr ⟨List.mem_cons_of_mem _ (List.mem_append_left _ (List.mem_of_getElem? (i := 7) rfl)), List.forall_mem_cons.mpr ⟨List.mem_cons_of_mem _ (List.mem_append_left _ (List.mem_of_getElem? (i := 8) rfl)), fun _ h => absurd h List.not_mem_nil⟩⟩⟩) (by decide +kernel)) gw_X2_leastLocks_J6_bitCount_0f7a4
theorem gw_X2_leastLocks_X2_safeLocks : GoodIn W_X2_leastLocks W_X2_safeLocks := fun w h => ⟨List.mem_cons_of_mem _ (List.mem_append_right _ (List.mem_append_right _ (List.mem_append_right _ (List.mem_append_left _ (h))))), (wI_X2_safeLocks w h).2⟩
theorem gc_X2_leastLocks_176_X2_safeLocks : GoodIn W_X2_leastLocks (wsV RX2 176 RX2 yX2_safeLocks W_X2_safeLocks) := goodIn_app (goodIn_sub (List.forall_mem_cons.mpr ⟨List.mem_cons_of_mem _ (List.mem_append_left _ (List.mem_of_getElem? (i := 0) rfl)), List.forall_mem_cons.mpr ⟨List.mem_cons_of_mem _ (List.mem_append_left _ (List.mem_of_getElem? (i := 1) rfl)), List.forall_mem_cons.mpr ⟨List.mem_cons_of_mem _ (List.mem_append_left _ (List.mem_of_getElem? (i := 2) rfl)), List.forall_mem_cons.mpr ⟨List.mem_cons_of_mem _ (List.mem_append_left _ (List.mem_of_getElem? (i := 3) rfl)), fun _ h => absurd h List.not_mem_nil⟩⟩⟩⟩) (by decide +kernel)) gw_X2_leastLocks_X2_safeLocks
theorem gw_X2_safeLocks_X2_isValid : GoodIn W_X2_safeLocks W_X2_isValid := fun w h => ⟨List.mem_cons_of_mem _ (List.mem_append_right _ (List.mem_append_right _ (List.mem_append_right _ (List.mem_append_right _ (List.mem_append_left _ (h)))))), (wI_X2_isValid w h).2⟩
theorem gc_X2_safeLocks_140_X2_isValid : GoodIn W_X2_safeLocks (wsV RX2 140 RX2 yX2_isValid W_X2_isValid) := goodIn_app (goodIn_sub (List.forall_mem_cons.mpr ⟨List.mem_cons_of_mem _ (List.mem_append_left _ (List.mem_of_getElem? (i := 4) rfl)), List.forall_mem_cons.mpr ⟨List.mem_cons_of_mem _ (List.mem_append_left _ (List.mem_of_getElem? (i := 5) rfl)), List.forall_mem_cons.mpr ⟨List.mem_cons_of_mem _ (List.mem_append_left _ (List.mem_of_getElem? (i := 6) rfl)), List.forall_mem_cons.mpr ⟨List.mem_cons_of_mem _ (List.mem_append_left _ (List.mem_of_getElem? (i := 7) rfl)), fun _ h => absurd h List.not_mem_nil⟩⟩⟩⟩) (by decide +kernel)) gw_X2_safeLocks_X2_isValid
theorem gw_X2_safeLocks_X2_spread : GoodIn W_X2_safeLocks W_X2_spread := fun w h => ⟨List.mem_cons_of_mem _ (List.mem_append_right _ (List.mem_append_right _ (List.mem_append_right _ (List.mem_append_right _ (List.mem_append_right _ (List.mem_append_left _ (h))))))), (wI_X2_spread w h).2⟩
theorem gc_X2_safeLocks_149_X2_spread : GoodIn W_X2_safeLocks (wsV RX2 149 RX2 yX2_spread W_X2_spread) := goodIn_app (goodIn_sub (List.forall_mem_cons.mpr ⟨List.mem_cons_of_mem _ (List.mem_append_left _ (List.mem_of_getElem? (i := 8) rfl)), List.forall_mem_cons.mpr ⟨List.mem_cons_of_mem _ (List.mem_append_left _ (List.mem_of_getElem? (i := 9) rfl)), List.forall_mem_cons.mpr ⟨List.mem_cons_of_mem _ (List.mem_append_left _ (List.mem_of_getElem? (i := 10) rfl)), List.forall_mem_cons.mpr ⟨List.mem_cons_of_mem _ (List.mem_append_left _ (List.mem_of_getElem? (i := 7) rfl)), fun _ h => absurd h List.not_mem_nil⟩⟩⟩⟩) (by decide +kernel)) gw_X2_safeLocks_X2_spread
theorem gw_X2_safeLocks_X2_mark : GoodIn W_X2_safeLocks W_X2_mark := fun w h => ⟨List.mem_cons_of_mem _ (List.mem_append_right _ (List.mem_append_right _ (List.mem_append_right _ (List.mem_append_right _ (List.mem_append_right _ (List.mem_append_right _ (List.mem_append_left _ (h)))))))), (wI_X2_mark w h).2⟩
theorem gc_X2_safeLocks_159_X2_mark : GoodIn W_X2_safeLocks (wsV RX2 159 RX2 yX2_mark W_X2_mark) := goodIn_app (goodIn_sub (List.forall_mem_cons.mpr ⟨List.mem_cons_of_mem _ (List.mem_append_left _ (List.mem_of_getElem? (i := 11) rfl)), List.forall_mem_cons.mpr ⟨List.mem_cons_of_mem _ (List.mem_append_left _ (List.mem_of_getElem? (i := 12) rfl)), List.forall_mem_cons.mpr ⟨List.mem_cons_of_mem _ (List.mem_append_left _ (List.mem_of_getElem? (i := 13) rfl)), List.forall_mem_cons.mpr ⟨List.mem_cons_of_mem _ (List.mem_append_left _ (List.mem_of_getElem? (i := 7) rfl)), fun _ h => absurd h List.not_mem_nil⟩⟩⟩⟩) (by decide +kernel)) gw_X2_safeLocks_X2_mark
theorem gw_X2_safeLocks_X2_hasBreakAmong : GoodIn W_X2_safeLocks W_X2_hasBreakAmong := fun w h => ⟨List.mem_cons_of_mem _ (List.mem_append_right _ (List.mem_append_right _ (List.mem_append_right _ (List.mem_append_right _ (List.mem_append_right _ (List.mem_append_right _ (List.mem_append_right _ (h)))))))), (wI_X2_hasBreakAmong w h).2⟩
theorem gc_X2_safeLocks_184_X2_hasBreakAmong : GoodIn W_X2_safeLocks (wsV RX2 184 RX2 yX2_hasBreakAmong W_X2_hasBreakAmong) := goodIn_app (goodIn_sub (List.forall_mem_cons.mpr ⟨List.mem_cons_of_mem _ (List.mem_append_left _ (List.mem_of_getElem? (i := 14) rfl)), List.forall_mem_cons.mpr ⟨List.mem_cons_of_mem _ (List.mem_append_left _ (List.mem_of_getElem? (i := 15) rfl)), List.forall_mem_cons.mpr ⟨List.mem_cons_of_mem _ (List.mem_append_left _ (List.mem_of_getElem? (i := 16) rfl)), List.forall_mem_cons.mpr ⟨List.mem_cons_of_mem _ (List.mem_append_left _ (List.mem_of_getElem? (i := 7) rfl)), fun _ h => absurd h List.not_mem_nil⟩⟩⟩⟩) (by decide +kernel)) gw_X2_safeLocks_X2_hasBreakAmong
theorem gw_X2_totalBy_X3_fill : GoodIn W_X2_totalBy W_X3_fill := fun w h => ⟨List.mem_cons_of_mem _ (List.mem_append_right _ (List.mem_append_right _ (List.mem_append_right _ (List.mem_append_left _ (h))))), (wI_X3_fill w h).2⟩
theorem gc_X2_totalBy_62_X3_fill : GoodIn W_X2_totalBy (wsV RX2 62 RX3 yX3_fill W_X3_fill) := goodIn_app (goodIn_sub (List.forall_mem_cons.mpr ⟨List.mem_cons_of_mem _ (List.mem_append_left _ (List.mem_of_getElem? (i := 3) rfl)), List.forall_mem_cons.mpr ⟨List.mem_cons_of_mem _ (List.mem_append_left _ (List.mem_of_getElem? (i := 4) rfl)), List.forall_mem_cons.mpr ⟨List.mem_cons_of_mem _ (List.mem_append_left _ (List.mem_of_getElem? (i := 5) rfl)), List.forall_mem_cons.mpr ⟨List.mem_cons_of_mem _ (List.mem_append_left _ (List.mem_of_getElem? (i := 6) rfl)), fun _ h => absurd h List.not_mem_nil⟩⟩⟩⟩) (by decide +kernel)) gw_X2_totalBy_X3_fill
theorem gw_X2_totalBy_X2_total : GoodIn W_X2_totalBy W_X2_total := fun w h => ⟨List.mem_cons_of_mem _ (List.mem_append_right _ (List.mem_append_right _ (List.mem_append_right _ (List.mem_append_right _ (h))))), (wI_X2_total w h).2⟩
theorem gc_X2_totalBy_93_X2_total : GoodIn W_X2_totalBy (wsV RX2 93 RX2 yX2_total W_X2_total) := goodIn_app (goodIn_sub (List.forall_mem_cons.mpr ⟨List.mem_cons_of_mem _ (List.mem_append_left _ (List.mem_of_getElem? (i := 7) rfl)), List.forall_mem_cons.mpr ⟨List.mem_cons_of_mem _ (List.mem_append_left _ (List.mem_of_getElem? (i := 8) rfl)), List.forall_mem_cons.mpr ⟨List.mem_cons_of_mem _ (List.mem_append_left _ (List.mem_of_getElem? (i := 9) rfl)), List.forall_mem_cons.mpr ⟨List.mem_cons_of_mem _ (List.mem_append_left _ (List.mem_of_getElem? (i := 10) rfl)), fun _ h => absurd h List.not_mem_nil⟩⟩⟩⟩) (by decide +kernel)) gw_X2_totalBy_X2_total
theorem gw_X2_totalOf_X3_fillCell : GoodIn W_X2_totalOf W_X3_fillCell := fun w h => ⟨List.mem_cons_of_mem _ (List.mem_append_right _ (List.mem_append_right _ (List.mem_append_right _ (List.mem_append_left _ (h))))), (wI_X3_fillCell w h).2⟩
theorem gc_X2_totalOf_105_X3_fillCell : GoodIn W_X2_totalOf (wsV RX2 105 RX3 yX3_fillCell W_X3_fillCell) := goodIn_app (goodIn_sub (List.forall_mem_cons.mpr ⟨List.mem_cons_of_mem _ (List.mem_append_left _ (List.mem_of_getElem? (i := 4) rfl)), List.forall_mem_cons.mpr ⟨List.mem_cons_of_mem _ (List.mem_append_left _ (List.mem_of_getElem? (i := 5) rfl)), List.forall_mem_cons.mpr ⟨List.mem_cons_of_mem _ (List.mem_append_left _ (List.mem_of_getElem? (i := 6) rfl)), List.forall_mem_cons.mpr ⟨List.mem_cons_of_mem _ (List.mem_append_left _ (List.mem_of_getElem? (i := 7) rfl)), fun _ h => absurd h List.not_mem_nil⟩⟩⟩⟩) (by decide +kernel)) gw_X2_totalOf_X3_fillCell
theorem gw_X2_totalOf_X3_fill : GoodIn W_X2_totalOf W_X3_fill := fun w h => ⟨List.mem_cons_of_mem _ (List.mem_append_right _ (List.mem_append_right _ (List.mem_append_right _ (List.mem_append_right _ (List.mem_append_right _ (h)))))), (wI_X3_fill w h).2⟩
theorem gc_X2_totalOf_62_X3_fill : GoodIn W_X2_totalOf (wsV RX2 62 RX3 yX3_fill W_X3_fill) := goodIn_app (goodIn_sub (List.forall_mem_cons.mpr ⟨List.mem_cons_of_mem _ (List.mem_append_left _ (List.mem_of_getElem? (i := 12) rfl)), List.forall_mem_cons.mpr ⟨List.mem_cons_of_mem _ (List.mem_append_left _ (List.mem_of_getElem? (i := 13) rfl)), List.forall_mem_cons.mpr ⟨List.mem_cons_of_mem _ (List.mem_append_left _ (List.mem_of_getElem? (i := 14) rfl)), List.forall_mem_cons.mpr ⟨List.mem_cons_of_mem _ (List.mem_append_left _ (List.mem_of_getElem? (i := 7) rfl)), fun _ h => absurd h List.not_mem_nil⟩⟩⟩⟩) (by decide +kernel)) gw_X2_totalOf_X3_fill
theorem gw_X2_totalOf_X2_total : GoodIn W_X2_totalOf W_X2_total := fun w h => ⟨List.mem_cons_of_mem _ (List.mem_append_right _ (List.mem_append_right _ (List.mem_append_right _ (List.mem_append_right _ (List.mem_append_left _ (h)))))), (wI_X2_total w h).2⟩
theorem gc_X2_totalOf_93_X2_total : GoodIn W_X2_totalOf (wsV RX2 93 RX2 yX2_total W_X2_total) := goodIn_app (goodIn_sub (List.forall_mem_cons.mpr ⟨List.mem_cons_of_mem _ (List.mem_append_left _ (List.mem_of_getElem? (i := 8) rfl)), List.forall_mem_cons.mpr ⟨List.mem_cons_of_mem _ (List.mem_append_left _ (List.mem_of_getElem? (i := 9) rfl)), List.forall_mem_cons.mpr ⟨List.mem_cons_of_mem _ (List.mem_append_left _ (List.mem_of_getElem? (i := 10) rfl)), List.forall_mem_cons.mpr ⟨List.mem_cons_of_mem _ (List.mem_append_left _ (List.mem_of_getElem? (i := 11) rfl)), fun _ h => absurd h List.not_mem_nil⟩⟩⟩⟩) (by decide +kernel)) gw_X2_totalOf_X2_total
theorem gw_X2_totalWith_X2_suppose : GoodIn W_X2_totalWith W_X2_suppose := fun w h => ⟨List.mem_cons_of_mem _ (List.mem_append_right _ (List.mem_append_right _ (List.mem_append_right _ (List.mem_append_left _ (h))))), (wI_X2_suppose w h).2⟩
theorem gc_X2_totalWith_72_X2_suppose : GoodIn W_X2_totalWith (wsV RX2 72 RX2 yX2_suppose W_X2_suppose) := goodIn_app (goodIn_sub (List.forall_mem_cons.mpr ⟨List.mem_cons_of_mem _ (List.mem_append_left _ (List.mem_of_getElem? (i := 0) rfl)), List.forall_mem_cons.mpr ⟨List.mem_cons_of_mem _ (List.mem_append_left _ (List.mem_of_getElem? (i := 1) rfl)), List.forall_mem_cons.mpr ⟨List.mem_cons_of_mem _ (List.mem_append_left _ (List.mem_of_getElem? (i := 2) rfl)), List.forall_mem_cons.mpr ⟨List.mem_cons_of_mem _ (List.mem_append_left _ (List.mem_of_getElem? (i := 3) rfl)), fun _ h => absurd h List.not_mem_nil⟩⟩⟩⟩) (by decide +kernel)) gw_X2_totalWith_X2_suppose
theorem gw_X2_totalWith_X2_total : GoodIn W_X2_totalWith W_X2_total := fun w h => ⟨List.mem_cons_of_mem _ (List.mem_append_right _ (List.mem_append_right _ (List.mem_append_right _ (List.mem_append_right _ (h))))), (wI_X2_total w h).2⟩
theorem gc_X2_totalWith_93_X2_total : GoodIn W_X2_totalWith (wsV RX2 93 RX2 yX2_total W_X2_total) := goodIn_app (goodIn_sub (List.forall_mem_cons.mpr ⟨List.mem_cons_of_mem _ (List.mem_append_left _ (List.mem_of_getElem? (i := 4) rfl)), List.forall_mem_cons.mpr ⟨List.mem_cons_of_mem _ (List.mem_append_left _ (List.mem_of_getElem? (i := 5) rfl)), List.forall_mem_cons.mpr ⟨List.mem_cons_of_mem _ (List.mem_append_left _ (List.mem_of_getElem? (i := 6) rfl)), List.forall_mem_cons.mpr ⟨List.mem_cons_of_mem _ (List.mem_append_left _ (List.mem_of_getElem? (i := 3) rfl)), fun _ h => absurd h List.not_mem_nil⟩⟩⟩⟩) (by decide +kernel)) gw_X2_totalWith_X2_total
theorem gw_X2_validsWith_J13_bitCount_95d88 : GoodIn W_X2_validsWith W_J13_bitCount_95d88 := fun w h => ⟨List.mem_cons_of_mem _ (List.mem_append_right _ (List.mem_append_right _ (List.mem_append_right _ (List.mem_append_right _ (h))))), (wI_J13_bitCount_95d88 w h).2⟩
theorem gc_X2_validsWith_87_J13_bitCount_95d88 : GoodIn W_X2_validsWith (va_wsS RX2 87 yJ13_bitCount_95d88 W_J13_bitCount_95d88) := goodIn_app (goodIn_sub (List.forall_mem_cons.mpr ⟨List.mem_cons_of_mem _ (List.mem_append_left _ (List.mem_of_getElem? (i := 7) rfl)), List.forall_mem_cons.mpr ⟨List.mem_cons_of_mem _ (List.mem_append_left _ (List.mem_of_getElem? (i := 8) rfl)), List.forall_mem_cons.mpr ⟨List.mem_cons_of_mem _ (List.mem_append_left _ (List.mem_of_getElem? (i := 9) rfl)), fun _ h => absurd h List.not_mem_nil⟩⟩⟩) (by decide +kernel)) gw_X2_validsWith_J13_bitCount_95d88
theorem gw_X2_validsWith_X2_suppose : GoodIn W_X2_validsWith W_X2_suppose := fun w h => ⟨List.mem_cons_of_mem _ (List.mem_append_right _ (List.mem_append_right _ (List.mem_append_right _ (List.mem_append_left _ (h))))), (wI_X2_suppose w h).2⟩
theorem gc_X2_validsWith_72_X2_suppose : GoodIn W_X2_validsWith (wsV RX2 72 RX2 yX2_suppose W_X2_suppose) := goodIn_app (goodIn_sub (List.forall_mem_cons.mpr ⟨List.mem_cons_of_mem _ (List.mem_append_left _ (List.mem_of_getElem? (i := 2) rfl)), List.forall_mem_cons.mpr ⟨List.mem_cons_of_mem _ (List.mem_append_left _ (List.mem_of_getElem? (i := 3) rfl)), List.forall_mem_cons.mpr ⟨List.mem_cons_of_mem _ (List.mem_append_left _ (List.mem_of_getElem? (i := 4) rfl)), List.forall_mem_cons.mpr ⟨List.mem_cons_of_mem _ (List.mem_append_left _ (List.mem_of_getElem? (i := 5) rfl)), fun _ h => absurd h List.not_mem_nil⟩⟩⟩⟩) (by decide +kernel)) gw_X2_validsWith_X2_suppose
