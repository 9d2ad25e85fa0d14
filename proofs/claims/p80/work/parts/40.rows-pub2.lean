theorem dX2_fitting_0 : decode cX2_fitting 0 = .ok (.aload_n 0, 1) := by decide +kernel
theorem dX2_fitting_1 : decode cX2_fitting 1 = .ok (.getfield 12, 3) := by decide +kernel
theorem dX2_fitting_4 : decode cX2_fitting 4 = .ok (.aload_n 0, 1) := by decide +kernel
theorem dX2_fitting_5 : decode cX2_fitting 5 = .ok (.getfield 49, 3) := by decide +kernel
theorem dX2_fitting_8 : decode cX2_fitting 8 = .ok (.aload_n 0, 1) := by decide +kernel
theorem dX2_fitting_9 : decode cX2_fitting 9 = .ok (.getfield 53, 3) := by decide +kernel
theorem dX2_fitting_12 : decode cX2_fitting 12 = .ok (.iload_n 2, 1) := by decide +kernel
theorem dX2_fitting_13 : decode cX2_fitting 13 = .ok (.invokevirtual 62, 3) := by decide +kernel
theorem dX2_fitting_16 : decode cX2_fitting 16 = .ok (.aload_n 0, 1) := by decide +kernel
theorem dX2_fitting_17 : decode cX2_fitting 17 = .ok (.getfield 25, 3) := by decide +kernel
theorem dX2_fitting_20 : decode cX2_fitting 20 = .ok (.lstore_n 3, 1) := by decide +kernel
theorem dX2_fitting_21 : decode cX2_fitting 21 = .ok (.iconst 0, 1) := by decide +kernel
theorem dX2_fitting_22 : decode cX2_fitting 22 = .ok (.istore 5, 2) := by decide +kernel
theorem dX2_fitting_24 : decode cX2_fitting 24 = .ok (.iload 5, 2) := by decide +kernel
theorem dX2_fitting_26 : decode cX2_fitting 26 = .ok (.iconst 2, 1) := by decide +kernel
theorem dX2_fitting_27 : decode cX2_fitting 27 = .ok (.iadd, 1) := by decide +kernel
theorem dX2_fitting_28 : decode cX2_fitting 28 = .ok (.aload_n 1, 1) := by decide +kernel
theorem dX2_fitting_29 : decode cX2_fitting 29 = .ok (.getfield 109, 3) := by decide +kernel
theorem dX2_fitting_32 : decode cX2_fitting 32 = .ok (.if_icmp .ge 87, 3) := by decide +kernel
theorem dX2_fitting_35 : decode cX2_fitting 35 = .ok (.aload_n 1, 1) := by decide +kernel
theorem dX2_fitting_36 : decode cX2_fitting 36 = .ok (.getfield 114, 3) := by decide +kernel
theorem dX2_fitting_39 : decode cX2_fitting 39 = .ok (.iload 5, 2) := by decide +kernel
theorem dX2_fitting_41 : decode cX2_fitting 41 = .ok (.laload, 1) := by decide +kernel
theorem dX2_fitting_42 : decode cX2_fitting 42 = .ok (.l2i, 1) := by decide +kernel
theorem dX2_fitting_43 : decode cX2_fitting 43 = .ok (.istore 6, 2) := by decide +kernel
theorem dX2_fitting_45 : decode cX2_fitting 45 = .ok (.aload_n 1, 1) := by decide +kernel
theorem dX2_fitting_46 : decode cX2_fitting 46 = .ok (.getfield 114, 3) := by decide +kernel
theorem dX2_fitting_49 : decode cX2_fitting 49 = .ok (.iload 5, 2) := by decide +kernel
theorem dX2_fitting_51 : decode cX2_fitting 51 = .ok (.iconst 1, 1) := by decide +kernel
theorem dX2_fitting_52 : decode cX2_fitting 52 = .ok (.iadd, 1) := by decide +kernel
theorem dX2_fitting_53 : decode cX2_fitting 53 = .ok (.laload, 1) := by decide +kernel
theorem dX2_fitting_54 : decode cX2_fitting 54 = .ok (.l2i, 1) := by decide +kernel
theorem dX2_fitting_55 : decode cX2_fitting 55 = .ok (.istore 7, 2) := by decide +kernel
theorem dX2_fitting_57 : decode cX2_fitting 57 = .ok (.iconst 0, 1) := by decide +kernel
theorem dX2_fitting_58 : decode cX2_fitting 58 = .ok (.istore 8, 2) := by decide +kernel
theorem dX2_fitting_60 : decode cX2_fitting 60 = .ok (.iload 8, 2) := by decide +kernel
theorem dX2_fitting_62 : decode cX2_fitting 62 = .ok (.aload_n 0, 1) := by decide +kernel
theorem dX2_fitting_63 : decode cX2_fitting 63 = .ok (.getfield 53, 3) := by decide +kernel
theorem dX2_fitting_66 : decode cX2_fitting 66 = .ok (.getfield 117, 3) := by decide +kernel
theorem dX2_fitting_69 : decode cX2_fitting 69 = .ok (.if_icmp .ge 44, 3) := by decide +kernel
theorem dX2_fitting_72 : decode cX2_fitting 72 = .ok (.aload_n 0, 1) := by decide +kernel
theorem dX2_fitting_73 : decode cX2_fitting 73 = .ok (.iload 8, 2) := by decide +kernel
theorem dX2_fitting_75 : decode cX2_fitting 75 = .ok (.iload 6, 2) := by decide +kernel
theorem dX2_fitting_77 : decode cX2_fitting 77 = .ok (.iload 7, 2) := by decide +kernel
theorem dX2_fitting_79 : decode cX2_fitting 79 = .ok (.invokevirtual 118, 3) := by decide +kernel
theorem dX2_fitting_82 : decode cX2_fitting 82 = .ok (.i2l, 1) := by decide +kernel
theorem dX2_fitting_83 : decode cX2_fitting 83 = .ok (.aload_n 1, 1) := by decide +kernel
theorem dX2_fitting_84 : decode cX2_fitting 84 = .ok (.getfield 114, 3) := by decide +kernel
theorem dX2_fitting_87 : decode cX2_fitting 87 = .ok (.iload 5, 2) := by decide +kernel
theorem dX2_fitting_89 : decode cX2_fitting 89 = .ok (.iconst 2, 1) := by decide +kernel
theorem dX2_fitting_90 : decode cX2_fitting 90 = .ok (.iadd, 1) := by decide +kernel
theorem dX2_fitting_91 : decode cX2_fitting 91 = .ok (.laload, 1) := by decide +kernel
theorem dX2_fitting_92 : decode cX2_fitting 92 = .ok (.lcmp, 1) := by decide +kernel
theorem dX2_fitting_93 : decode cX2_fitting 93 = .ok (.ifCond .eq 14, 3) := by decide +kernel
theorem dX2_fitting_96 : decode cX2_fitting 96 = .ok (.lload_n 3, 1) := by decide +kernel
theorem dX2_fitting_97 : decode cX2_fitting 97 = .ok (.lconst 1, 1) := by decide +kernel
theorem dX2_fitting_98 : decode cX2_fitting 98 = .ok (.iload 8, 2) := by decide +kernel
theorem dX2_fitting_100 : decode cX2_fitting 100 = .ok (.lshl, 1) := by decide +kernel
theorem dX2_fitting_101 : decode cX2_fitting 101 = .ok (.ldc2_w 122, 3) := by decide +kernel
theorem dX2_fitting_104 : decode cX2_fitting 104 = .ok (.lxor, 1) := by decide +kernel
theorem dX2_fitting_105 : decode cX2_fitting 105 = .ok (.land, 1) := by decide +kernel
theorem dX2_fitting_106 : decode cX2_fitting 106 = .ok (.lstore_n 3, 1) := by decide +kernel
theorem dX2_fitting_107 : decode cX2_fitting 107 = .ok (.iinc 8 1, 3) := by decide +kernel
theorem dX2_fitting_110 : decode cX2_fitting 110 = .ok (.goto (-50), 3) := by decide +kernel
theorem dX2_fitting_113 : decode cX2_fitting 113 = .ok (.iinc 5 3, 3) := by decide +kernel
theorem dX2_fitting_116 : decode cX2_fitting 116 = .ok (.goto (-92), 3) := by decide +kernel
theorem dX2_fitting_119 : decode cX2_fitting 119 = .ok (.aload_n 0, 1) := by decide +kernel
theorem dX2_fitting_120 : decode cX2_fitting 120 = .ok (.getfield 12, 3) := by decide +kernel
theorem dX2_fitting_123 : decode cX2_fitting 123 = .ok (.aload_n 0, 1) := by decide +kernel
theorem dX2_fitting_124 : decode cX2_fitting 124 = .ok (.getfield 49, 3) := by decide +kernel
theorem dX2_fitting_127 : decode cX2_fitting 127 = .ok (.aload_n 0, 1) := by decide +kernel
theorem dX2_fitting_128 : decode cX2_fitting 128 = .ok (.getfield 53, 3) := by decide +kernel
theorem dX2_fitting_131 : decode cX2_fitting 131 = .ok (.aload_n 0, 1) := by decide +kernel
theorem dX2_fitting_132 : decode cX2_fitting 132 = .ok (.getfield 49, 3) := by decide +kernel
theorem dX2_fitting_135 : decode cX2_fitting 135 = .ok (.getfield 57, 3) := by decide +kernel
theorem dX2_fitting_138 : decode cX2_fitting 138 = .ok (.invokevirtual 62, 3) := by decide +kernel
theorem dX2_fitting_141 : decode cX2_fitting 141 = .ok (.lload_n 3, 1) := by decide +kernel
theorem dX2_fitting_142 : decode cX2_fitting 142 = .ok (.lreturn, 1) := by decide +kernel
theorem dX8_by_0 : decode cX8_by 0 = .ok (.aload_n 0, 1) := by decide +kernel
theorem dX8_by_1 : decode cX8_by 1 = .ok (.invokevirtual 120, 3) := by decide +kernel
theorem dX8_by_4 : decode cX8_by 4 = .ok (.ifCond .eq 12, 3) := by decide +kernel
theorem dX8_by_7 : decode cX8_by 7 = .ok (.iload_n 1, 1) := by decide +kernel
theorem dX8_by_8 : decode cX8_by 8 = .ok (.ifCond .lt 8, 3) := by decide +kernel
theorem dX8_by_11 : decode cX8_by 11 = .ok (.iload_n 1, 1) := by decide +kernel
theorem dX8_by_12 : decode cX8_by 12 = .ok (.iconst 4, 1) := by decide +kernel
theorem dX8_by_13 : decode cX8_by 13 = .ok (.if_icmp .lt 8, 3) := by decide +kernel
theorem dX8_by_16 : decode cX8_by 16 = .ok (.bipush (-2), 2) := by decide +kernel
theorem dX8_by_18 : decode cX8_by 18 = .ok (.goto 11, 3) := by decide +kernel
theorem dX8_by_21 : decode cX8_by 21 = .ok (.aload_n 0, 1) := by decide +kernel
theorem dX8_by_22 : decode cX8_by 22 = .ok (.getfield 47, 3) := by decide +kernel
theorem dX8_by_25 : decode cX8_by 25 = .ok (.iload_n 1, 1) := by decide +kernel
theorem dX8_by_26 : decode cX8_by 26 = .ok (.invokevirtual 264, 3) := by decide +kernel
theorem dX8_by_29 : decode cX8_by 29 = .ok (.ireturn, 1) := by decide +kernel
theorem dX8_fits_0 : decode cX8_fits 0 = .ok (.aload_n 0, 1) := by decide +kernel
theorem dX8_fits_1 : decode cX8_fits 1 = .ok (.iload_n 1, 1) := by decide +kernel
theorem dX8_fits_2 : decode cX8_fits 2 = .ok (.invokevirtual 254, 3) := by decide +kernel
theorem dX8_fits_5 : decode cX8_fits 5 = .ok (.istore_n 2, 1) := by decide +kernel
theorem dX8_fits_6 : decode cX8_fits 6 = .ok (.iload_n 2, 1) := by decide +kernel
theorem dX8_fits_7 : decode cX8_fits 7 = .ok (.ifCond .eq 7, 3) := by decide +kernel
theorem dX8_fits_10 : decode cX8_fits 10 = .ok (.iload_n 2, 1) := by decide +kernel
theorem dX8_fits_11 : decode cX8_fits 11 = .ok (.goto 26, 3) := by decide +kernel
theorem dX8_fits_14 : decode cX8_fits 14 = .ok (.aload_n 0, 1) := by decide +kernel
theorem dX8_fits_15 : decode cX8_fits 15 = .ok (.getfield 47, 3) := by decide +kernel
theorem dX8_fits_18 : decode cX8_fits 18 = .ok (.aload_n 0, 1) := by decide +kernel
theorem dX8_fits_19 : decode cX8_fits 19 = .ok (.getfield 70, 3) := by decide +kernel
theorem dX8_fits_22 : decode cX8_fits 22 = .ok (.iload_n 1, 1) := by decide +kernel
theorem dX8_fits_23 : decode cX8_fits 23 = .ok (.aaload, 1) := by decide +kernel
theorem dX8_fits_24 : decode cX8_fits 24 = .ok (.aload_n 0, 1) := by decide +kernel
theorem dX8_fits_25 : decode cX8_fits 25 = .ok (.getfield 23, 3) := by decide +kernel
theorem dX8_fits_28 : decode cX8_fits 28 = .ok (.getfield 257, 3) := by decide +kernel
theorem dX8_fits_31 : decode cX8_fits 31 = .ok (.invokevirtual 260, 3) := by decide +kernel
theorem dX8_fits_34 : decode cX8_fits 34 = .ok (.invokestatic 148, 3) := by decide +kernel
theorem dX8_fits_37 : decode cX8_fits 37 = .ok (.ireturn, 1) := by decide +kernel
theorem dX8_law_0 : decode cX8_law 0 = .ok (.aload_n 0, 1) := by decide +kernel
theorem dX8_law_1 : decode cX8_law 1 = .ok (.invokevirtual 120, 3) := by decide +kernel
theorem dX8_law_4 : decode cX8_law 4 = .ok (.ifCond .ne 6, 3) := by decide +kernel
theorem dX8_law_7 : decode cX8_law 7 = .ok (.bipush (-2), 2) := by decide +kernel
theorem dX8_law_9 : decode cX8_law 9 = .ok (.ireturn, 1) := by decide +kernel
theorem dX8_law_10 : decode cX8_law 10 = .ok (.iconst 0, 1) := by decide +kernel
theorem dX8_law_11 : decode cX8_law 11 = .ok (.istore_n 1, 1) := by decide +kernel
theorem dX8_law_12 : decode cX8_law 12 = .ok (.aload_n 0, 1) := by decide +kernel
theorem dX8_law_13 : decode cX8_law 13 = .ok (.getfield 47, 3) := by decide +kernel
theorem dX8_law_16 : decode cX8_law 16 = .ok (.iconst 0, 1) := by decide +kernel
theorem dX8_law_17 : decode cX8_law 17 = .ok (.invokevirtual 264, 3) := by decide +kernel
theorem dX8_law_20 : decode cX8_law 20 = .ok (.istore_n 2, 1) := by decide +kernel
theorem dX8_law_21 : decode cX8_law 21 = .ok (.iconst 1, 1) := by decide +kernel
theorem dX8_law_22 : decode cX8_law 22 = .ok (.istore_n 3, 1) := by decide +kernel
theorem dX8_law_23 : decode cX8_law 23 = .ok (.iload_n 3, 1) := by decide +kernel
theorem dX8_law_24 : decode cX8_law 24 = .ok (.iconst 4, 1) := by decide +kernel
theorem dX8_law_25 : decode cX8_law 25 = .ok (.if_icmp .ge 30, 3) := by decide +kernel
theorem dX8_law_28 : decode cX8_law 28 = .ok (.aload_n 0, 1) := by decide +kernel
theorem dX8_law_29 : decode cX8_law 29 = .ok (.getfield 47, 3) := by decide +kernel
theorem dX8_law_32 : decode cX8_law 32 = .ok (.iload_n 3, 1) := by decide +kernel
theorem dX8_law_33 : decode cX8_law 33 = .ok (.invokevirtual 264, 3) := by decide +kernel
theorem dX8_law_36 : decode cX8_law 36 = .ok (.istore 4, 2) := by decide +kernel
theorem dX8_law_38 : decode cX8_law 38 = .ok (.iload 4, 2) := by decide +kernel
theorem dX8_law_40 : decode cX8_law 40 = .ok (.iload_n 2, 1) := by decide +kernel
theorem dX8_law_41 : decode cX8_law 41 = .ok (.if_icmp .ge 8, 3) := by decide +kernel
theorem dX8_law_44 : decode cX8_law 44 = .ok (.iload 4, 2) := by decide +kernel
theorem dX8_law_46 : decode cX8_law 46 = .ok (.istore_n 2, 1) := by decide +kernel
theorem dX8_law_47 : decode cX8_law 47 = .ok (.iload_n 3, 1) := by decide +kernel
theorem dX8_law_48 : decode cX8_law 48 = .ok (.istore_n 1, 1) := by decide +kernel
theorem dX8_law_49 : decode cX8_law 49 = .ok (.iinc 3 1, 3) := by decide +kernel
theorem dX8_law_52 : decode cX8_law 52 = .ok (.goto (-29), 3) := by decide +kernel
theorem dX8_law_55 : decode cX8_law 55 = .ok (.iload_n 1, 1) := by decide +kernel
theorem dX8_law_56 : decode cX8_law 56 = .ok (.ireturn, 1) := by decide +kernel
theorem dX8_laws_0 : decode cX8_laws 0 = .ok (.aload_n 0, 1) := by decide +kernel
theorem dX8_laws_1 : decode cX8_laws 1 = .ok (.iload_n 1, 1) := by decide +kernel
theorem dX8_laws_2 : decode cX8_laws 2 = .ok (.invokevirtual 254, 3) := by decide +kernel
theorem dX8_laws_5 : decode cX8_laws 5 = .ok (.istore_n 2, 1) := by decide +kernel
theorem dX8_laws_6 : decode cX8_laws 6 = .ok (.iload_n 2, 1) := by decide +kernel
theorem dX8_laws_7 : decode cX8_laws 7 = .ok (.ifCond .eq 5, 3) := by decide +kernel
theorem dX8_laws_10 : decode cX8_laws 10 = .ok (.iload_n 2, 1) := by decide +kernel
theorem dX8_laws_11 : decode cX8_laws 11 = .ok (.ireturn, 1) := by decide +kernel
theorem dX8_laws_12 : decode cX8_laws 12 = .ok (.iconst 0, 1) := by decide +kernel
theorem dX8_laws_13 : decode cX8_laws 13 = .ok (.istore_n 3, 1) := by decide +kernel
theorem dX8_laws_14 : decode cX8_laws 14 = .ok (.iconst 0, 1) := by decide +kernel
theorem dX8_laws_15 : decode cX8_laws 15 = .ok (.istore 4, 2) := by decide +kernel
theorem dX8_laws_17 : decode cX8_laws 17 = .ok (.iload 4, 2) := by decide +kernel
theorem dX8_laws_19 : decode cX8_laws 19 = .ok (.iconst 4, 1) := by decide +kernel
theorem dX8_laws_20 : decode cX8_laws 20 = .ok (.if_icmp .ge 36, 3) := by decide +kernel
theorem dX8_laws_23 : decode cX8_laws 23 = .ok (.aload_n 0, 1) := by decide +kernel
theorem dX8_laws_24 : decode cX8_laws 24 = .ok (.getfield 47, 3) := by decide +kernel
theorem dX8_laws_27 : decode cX8_laws 27 = .ok (.aload_n 0, 1) := by decide +kernel
theorem dX8_laws_28 : decode cX8_laws 28 = .ok (.getfield 70, 3) := by decide +kernel
theorem dX8_laws_31 : decode cX8_laws 31 = .ok (.iload_n 1, 1) := by decide +kernel
theorem dX8_laws_32 : decode cX8_laws 32 = .ok (.aaload, 1) := by decide +kernel
theorem dX8_laws_33 : decode cX8_laws 33 = .ok (.iload 4, 2) := by decide +kernel
theorem dX8_laws_35 : decode cX8_laws 35 = .ok (.invokevirtual 260, 3) := by decide +kernel
theorem dX8_laws_38 : decode cX8_laws 38 = .ok (.lconst 0, 1) := by decide +kernel
theorem dX8_laws_39 : decode cX8_laws 39 = .ok (.lcmp, 1) := by decide +kernel
theorem dX8_laws_40 : decode cX8_laws 40 = .ok (.ifCond .eq 10, 3) := by decide +kernel
theorem dX8_laws_43 : decode cX8_laws 43 = .ok (.iload_n 3, 1) := by decide +kernel
theorem dX8_laws_44 : decode cX8_laws 44 = .ok (.iconst 1, 1) := by decide +kernel
theorem dX8_laws_45 : decode cX8_laws 45 = .ok (.iload 4, 2) := by decide +kernel
theorem dX8_laws_47 : decode cX8_laws 47 = .ok (.ishl, 1) := by decide +kernel
theorem dX8_laws_48 : decode cX8_laws 48 = .ok (.ior, 1) := by decide +kernel
theorem dX8_laws_49 : decode cX8_laws 49 = .ok (.istore_n 3, 1) := by decide +kernel
theorem dX8_laws_50 : decode cX8_laws 50 = .ok (.iinc 4 1, 3) := by decide +kernel
theorem dX8_laws_53 : decode cX8_laws 53 = .ok (.goto (-36), 3) := by decide +kernel
theorem dX8_laws_56 : decode cX8_laws 56 = .ok (.iload_n 3, 1) := by decide +kernel
theorem dX8_laws_57 : decode cX8_laws 57 = .ok (.ireturn, 1) := by decide +kernel
theorem dX8_refusalOfRow_0 : decode cX8_refusalOfRow 0 = .ok (.aload_n 0, 1) := by decide +kernel
theorem dX8_refusalOfRow_1 : decode cX8_refusalOfRow 1 = .ok (.invokevirtual 120, 3) := by decide +kernel
theorem dX8_refusalOfRow_4 : decode cX8_refusalOfRow 4 = .ok (.ifCond .eq 11, 3) := by decide +kernel
theorem dX8_refusalOfRow_7 : decode cX8_refusalOfRow 7 = .ok (.aload_n 0, 1) := by decide +kernel
theorem dX8_refusalOfRow_8 : decode cX8_refusalOfRow 8 = .ok (.iload_n 1, 1) := by decide +kernel
theorem dX8_refusalOfRow_9 : decode cX8_refusalOfRow 9 = .ok (.invokevirtual 326, 3) := by decide +kernel
theorem dX8_refusalOfRow_12 : decode cX8_refusalOfRow 12 = .ok (.ifCond .eq 6, 3) := by decide +kernel
theorem dX8_refusalOfRow_15 : decode cX8_refusalOfRow 15 = .ok (.bipush (-2), 2) := by decide +kernel
theorem dX8_refusalOfRow_17 : decode cX8_refusalOfRow 17 = .ok (.ireturn, 1) := by decide +kernel
theorem dX8_refusalOfRow_18 : decode cX8_refusalOfRow 18 = .ok (.aload_n 0, 1) := by decide +kernel
theorem dX8_refusalOfRow_19 : decode cX8_refusalOfRow 19 = .ok (.getfield 70, 3) := by decide +kernel
theorem dX8_refusalOfRow_22 : decode cX8_refusalOfRow 22 = .ok (.iload_n 1, 1) := by decide +kernel
theorem dX8_refusalOfRow_23 : decode cX8_refusalOfRow 23 = .ok (.aaload, 1) := by decide +kernel
theorem dX8_refusalOfRow_24 : decode cX8_refusalOfRow 24 = .ok (.astore_n 2, 1) := by decide +kernel
theorem dX8_refusalOfRow_25 : decode cX8_refusalOfRow 25 = .ok (.aload_n 2, 1) := by decide +kernel
theorem dX8_refusalOfRow_26 : decode cX8_refusalOfRow 26 = .ok (.getfield 333, 3) := by decide +kernel
theorem dX8_refusalOfRow_29 : decode cX8_refusalOfRow 29 = .ok (.ifCond .ne 6, 3) := by decide +kernel
theorem dX8_refusalOfRow_32 : decode cX8_refusalOfRow 32 = .ok (.bipush (-6), 2) := by decide +kernel
theorem dX8_refusalOfRow_34 : decode cX8_refusalOfRow 34 = .ok (.ireturn, 1) := by decide +kernel
theorem dX8_refusalOfRow_35 : decode cX8_refusalOfRow 35 = .ok (.aload_n 2, 1) := by decide +kernel
theorem dX8_refusalOfRow_36 : decode cX8_refusalOfRow 36 = .ok (.getfield 337, 3) := by decide +kernel
theorem dX8_refusalOfRow_39 : decode cX8_refusalOfRow 39 = .ok (.iconst 3, 1) := by decide +kernel
theorem dX8_refusalOfRow_40 : decode cX8_refusalOfRow 40 = .ok (.irem, 1) := by decide +kernel
theorem dX8_refusalOfRow_41 : decode cX8_refusalOfRow 41 = .ok (.ifCond .eq 6, 3) := by decide +kernel
theorem dX8_refusalOfRow_44 : decode cX8_refusalOfRow 44 = .ok (.bipush (-2), 2) := by decide +kernel
theorem dX8_refusalOfRow_46 : decode cX8_refusalOfRow 46 = .ok (.ireturn, 1) := by decide +kernel
theorem dX8_refusalOfRow_47 : decode cX8_refusalOfRow 47 = .ok (.iconst 0, 1) := by decide +kernel
theorem dX8_refusalOfRow_48 : decode cX8_refusalOfRow 48 = .ok (.istore_n 3, 1) := by decide +kernel
theorem dX8_refusalOfRow_49 : decode cX8_refusalOfRow 49 = .ok (.iload_n 3, 1) := by decide +kernel
theorem dX8_refusalOfRow_50 : decode cX8_refusalOfRow 50 = .ok (.aload_n 2, 1) := by decide +kernel
theorem dX8_refusalOfRow_51 : decode cX8_refusalOfRow 51 = .ok (.getfield 337, 3) := by decide +kernel
theorem dX8_refusalOfRow_54 : decode cX8_refusalOfRow 54 = .ok (.if_icmp .ge 41, 3) := by decide +kernel
theorem dX8_refusalOfRow_57 : decode cX8_refusalOfRow 57 = .ok (.aload_n 2, 1) := by decide +kernel
theorem dX8_refusalOfRow_58 : decode cX8_refusalOfRow 58 = .ok (.getfield 338, 3) := by decide +kernel
theorem dX8_refusalOfRow_61 : decode cX8_refusalOfRow 61 = .ok (.iload_n 3, 1) := by decide +kernel
theorem dX8_refusalOfRow_62 : decode cX8_refusalOfRow 62 = .ok (.laload, 1) := by decide +kernel
theorem dX8_refusalOfRow_63 : decode cX8_refusalOfRow 63 = .ok (.lconst 0, 1) := by decide +kernel
theorem dX8_refusalOfRow_64 : decode cX8_refusalOfRow 64 = .ok (.lcmp, 1) := by decide +kernel
theorem dX8_refusalOfRow_65 : decode cX8_refusalOfRow 65 = .ok (.ifCond .lt 21, 3) := by decide +kernel
theorem dX8_refusalOfRow_68 : decode cX8_refusalOfRow 68 = .ok (.aload_n 2, 1) := by decide +kernel
theorem dX8_refusalOfRow_69 : decode cX8_refusalOfRow 69 = .ok (.getfield 338, 3) := by decide +kernel
theorem dX8_refusalOfRow_72 : decode cX8_refusalOfRow 72 = .ok (.iload_n 3, 1) := by decide +kernel
theorem dX8_refusalOfRow_73 : decode cX8_refusalOfRow 73 = .ok (.laload, 1) := by decide +kernel
theorem dX8_refusalOfRow_74 : decode cX8_refusalOfRow 74 = .ok (.aload_n 0, 1) := by decide +kernel
theorem dX8_refusalOfRow_75 : decode cX8_refusalOfRow 75 = .ok (.getfield 38, 3) := by decide +kernel
theorem dX8_refusalOfRow_78 : decode cX8_refusalOfRow 78 = .ok (.getfield 123, 3) := by decide +kernel
theorem dX8_refusalOfRow_81 : decode cX8_refusalOfRow 81 = .ok (.i2l, 1) := by decide +kernel
theorem dX8_refusalOfRow_82 : decode cX8_refusalOfRow 82 = .ok (.lcmp, 1) := by decide +kernel
theorem dX8_refusalOfRow_83 : decode cX8_refusalOfRow 83 = .ok (.ifCond .lt 6, 3) := by decide +kernel
theorem dX8_refusalOfRow_86 : decode cX8_refusalOfRow 86 = .ok (.bipush (-2), 2) := by decide +kernel
theorem dX8_refusalOfRow_88 : decode cX8_refusalOfRow 88 = .ok (.ireturn, 1) := by decide +kernel
theorem dX8_refusalOfRow_89 : decode cX8_refusalOfRow 89 = .ok (.iinc 3 1, 3) := by decide +kernel
theorem dX8_refusalOfRow_92 : decode cX8_refusalOfRow 92 = .ok (.goto (-43), 3) := by decide +kernel
theorem dX8_refusalOfRow_95 : decode cX8_refusalOfRow 95 = .ok (.iconst 0, 1) := by decide +kernel
theorem dX8_refusalOfRow_96 : decode cX8_refusalOfRow 96 = .ok (.ireturn, 1) := by decide +kernel
theorem dX8_which_0 : decode cX8_which 0 = .ok (.aload_n 0, 1) := by decide +kernel
theorem dX8_which_1 : decode cX8_which 1 = .ok (.iload_n 1, 1) := by decide +kernel
theorem dX8_which_2 : decode cX8_which 2 = .ok (.invokevirtual 254, 3) := by decide +kernel
theorem dX8_which_5 : decode cX8_which 5 = .ok (.istore_n 2, 1) := by decide +kernel
theorem dX8_which_6 : decode cX8_which 6 = .ok (.iload_n 2, 1) := by decide +kernel
theorem dX8_which_7 : decode cX8_which 7 = .ok (.ifCond .eq 5, 3) := by decide +kernel
theorem dX8_which_10 : decode cX8_which 10 = .ok (.iload_n 2, 1) := by decide +kernel
theorem dX8_which_11 : decode cX8_which 11 = .ok (.ireturn, 1) := by decide +kernel
theorem dX8_which_12 : decode cX8_which 12 = .ok (.aload_n 0, 1) := by decide +kernel
theorem dX8_which_13 : decode cX8_which 13 = .ok (.getfield 47, 3) := by decide +kernel
theorem dX8_which_16 : decode cX8_which 16 = .ok (.aload_n 0, 1) := by decide +kernel
theorem dX8_which_17 : decode cX8_which 17 = .ok (.getfield 70, 3) := by decide +kernel
theorem dX8_which_20 : decode cX8_which 20 = .ok (.iload_n 1, 1) := by decide +kernel
theorem dX8_which_21 : decode cX8_which 21 = .ok (.aaload, 1) := by decide +kernel
theorem dX8_which_22 : decode cX8_which 22 = .ok (.aload_n 0, 1) := by decide +kernel
theorem dX8_which_23 : decode cX8_which 23 = .ok (.getfield 23, 3) := by decide +kernel
theorem dX8_which_26 : decode cX8_which 26 = .ok (.getfield 257, 3) := by decide +kernel
theorem dX8_which_29 : decode cX8_which 29 = .ok (.invokevirtual 260, 3) := by decide +kernel
theorem dX8_which_32 : decode cX8_which 32 = .ok (.lstore_n 3, 1) := by decide +kernel
theorem dX8_which_33 : decode cX8_which 33 = .ok (.iconst 0, 1) := by decide +kernel
theorem dX8_which_34 : decode cX8_which 34 = .ok (.istore 5, 2) := by decide +kernel
theorem dX8_which_36 : decode cX8_which 36 = .ok (.iload 5, 2) := by decide +kernel
theorem dX8_which_38 : decode cX8_which 38 = .ok (.aload_n 0, 1) := by decide +kernel
theorem dX8_which_39 : decode cX8_which 39 = .ok (.getfield 38, 3) := by decide +kernel
theorem dX8_which_42 : decode cX8_which 42 = .ok (.getfield 123, 3) := by decide +kernel
theorem dX8_which_45 : decode cX8_which 45 = .ok (.if_icmp .ge 23, 3) := by decide +kernel
theorem dX8_which_48 : decode cX8_which 48 = .ok (.lload_n 3, 1) := by decide +kernel
theorem dX8_which_49 : decode cX8_which 49 = .ok (.iload 5, 2) := by decide +kernel
theorem dX8_which_51 : decode cX8_which 51 = .ok (.lushr, 1) := by decide +kernel
theorem dX8_which_52 : decode cX8_which 52 = .ok (.lconst 1, 1) := by decide +kernel
theorem dX8_which_53 : decode cX8_which 53 = .ok (.land, 1) := by decide +kernel
theorem dX8_which_54 : decode cX8_which 54 = .ok (.lconst 0, 1) := by decide +kernel
theorem dX8_which_55 : decode cX8_which 55 = .ok (.lcmp, 1) := by decide +kernel
theorem dX8_which_56 : decode cX8_which 56 = .ok (.ifCond .eq 6, 3) := by decide +kernel
theorem dX8_which_59 : decode cX8_which 59 = .ok (.iload 5, 2) := by decide +kernel
theorem dX8_which_61 : decode cX8_which 61 = .ok (.ireturn, 1) := by decide +kernel
theorem dX8_which_62 : decode cX8_which 62 = .ok (.iinc 5 1, 3) := by decide +kernel
theorem dX8_which_65 : decode cX8_which 65 = .ok (.goto (-29), 3) := by decide +kernel
theorem dX8_which_68 : decode cX8_which 68 = .ok (.iconst (-1), 1) := by decide +kernel
theorem dX8_which_69 : decode cX8_which 69 = .ok (.ireturn, 1) := by decide +kernel
theorem iuX2_fitting_X0 : ∀ w ∈ u_ws RX0 TX0 15, w ∈ W_X2_fitting := fun w h => List.mem_cons_of_mem _ (List.mem_append_right _ (List.mem_append_right _ (List.mem_append_right _ (List.mem_append_right _ (List.mem_append_left _ (h))))))
theorem iuX2_fitting_X2 : ∀ w ∈ u_ws RX2 TX2 12, w ∈ W_X2_fitting := fun w h => List.mem_cons_of_mem _ (List.mem_append_right _ (List.mem_append_left _ (h)))
theorem iuX2_fitting_X5 : ∀ w ∈ u_ws RX5 TX5 4, w ∈ W_X2_fitting := fun w h => List.mem_cons_of_mem _ (List.mem_append_right _ (List.mem_append_right _ (List.mem_append_left _ (h))))
theorem iuX2_fitting_X6 : ∀ w ∈ u_ws RX6 TX6 8, w ∈ W_X2_fitting := fun w h => List.mem_cons_of_mem _ (List.mem_append_right _ (List.mem_append_right _ (List.mem_append_right _ (List.mem_append_left _ (h)))))
theorem iuX8_by_X8 : ∀ w ∈ u_ws RX8 TX8 10, w ∈ W_X8_by := fun w h => List.mem_cons_of_mem _ (List.mem_append_right _ (List.mem_append_left _ (h)))
theorem iuX8_fits_X0 : ∀ w ∈ u_ws RX0 TX0 15, w ∈ W_X8_fits := fun w h => List.mem_cons_of_mem _ (List.mem_append_right _ (List.mem_append_right _ (List.mem_append_left _ (h))))
theorem iuX8_fits_X8 : ∀ w ∈ u_ws RX8 TX8 10, w ∈ W_X8_fits := fun w h => List.mem_cons_of_mem _ (List.mem_append_right _ (List.mem_append_left _ (h)))
theorem iuX8_law_X8 : ∀ w ∈ u_ws RX8 TX8 10, w ∈ W_X8_law := fun w h => List.mem_cons_of_mem _ (List.mem_append_right _ (List.mem_append_left _ (h)))
theorem iuX8_laws_X8 : ∀ w ∈ u_ws RX8 TX8 10, w ∈ W_X8_laws := fun w h => List.mem_cons_of_mem _ (List.mem_append_right _ (List.mem_append_left _ (h)))
theorem iuX8_refusalOfRow_X5 : ∀ w ∈ u_ws RX5 TX5 4, w ∈ W_X8_refusalOfRow := fun w h => List.mem_cons_of_mem _ (List.mem_append_right _ (List.mem_append_right _ (List.mem_append_left _ (h))))
theorem iuX8_refusalOfRow_X6 : ∀ w ∈ u_ws RX6 TX6 8, w ∈ W_X8_refusalOfRow := fun w h => List.mem_cons_of_mem _ (List.mem_append_right _ (List.mem_append_right _ (List.mem_append_right _ (List.mem_append_left _ (h)))))
theorem iuX8_refusalOfRow_X8 : ∀ w ∈ u_ws RX8 TX8 10, w ∈ W_X8_refusalOfRow := fun w h => List.mem_cons_of_mem _ (List.mem_append_right _ (List.mem_append_left _ (h)))
theorem iuX8_which_X0 : ∀ w ∈ u_ws RX0 TX0 15, w ∈ W_X8_which := fun w h => List.mem_cons_of_mem _ (List.mem_append_right _ (List.mem_append_right _ (List.mem_append_left _ (h))))
theorem iuX8_which_X6 : ∀ w ∈ u_ws RX6 TX6 8, w ∈ W_X8_which := fun w h => List.mem_cons_of_mem _ (List.mem_append_right _ (List.mem_append_right _ (List.mem_append_right _ (List.mem_append_left _ (h)))))
theorem iuX8_which_X8 : ∀ w ∈ u_ws RX8 TX8 10, w ∈ W_X8_which := fun w h => List.mem_cons_of_mem _ (List.mem_append_right _ (List.mem_append_left _ (h)))
theorem gw_X2_fitting_X2_merged : GoodIn W_X2_fitting W_X2_merged := fun w h => ⟨List.mem_cons_of_mem _ (List.mem_append_right _ (List.mem_append_right _ (List.mem_append_right _ (List.mem_append_right _ (List.mem_append_right _ (List.mem_append_right _ (h))))))), (wI_X2_merged w h).2⟩
theorem gc_X2_fitting_118_X2_merged : GoodIn W_X2_fitting (wsV RX2 118 RX2 yX2_merged W_X2_merged) := goodIn_app (goodIn_sub (List.forall_mem_cons.mpr ⟨List.mem_cons_of_mem _ (List.mem_append_left _ (List.mem_of_getElem? (i := 11) rfl)), List.forall_mem_cons.mpr ⟨List.mem_cons_of_mem _ (List.mem_append_left _ (List.mem_of_getElem? (i := 12) rfl)), List.forall_mem_cons.mpr ⟨List.mem_cons_of_mem _ (List.mem_append_left _ (List.mem_of_getElem? (i := 13) rfl)), List.forall_mem_cons.mpr ⟨List.mem_cons_of_mem _ (List.mem_append_left _ (List.mem_of_getElem? (i := 14) rfl)), fun _ h => absurd h List.not_mem_nil⟩⟩⟩⟩) (by decide +kernel)) gw_X2_fitting_X2_merged
theorem gw_X2_fitting_X3_fill : GoodIn W_X2_fitting W_X3_fill := fun w h => ⟨List.mem_cons_of_mem _ (List.mem_append_right _ (List.mem_append_right _ (List.mem_append_right _ (List.mem_append_right _ (List.mem_append_right _ (List.mem_append_left _ (h))))))), (wI_X3_fill w h).2⟩
theorem gc_X2_fitting_62_X3_fill : GoodIn W_X2_fitting (wsV RX2 62 RX3 yX3_fill W_X3_fill) := goodIn_app (goodIn_sub (List.forall_mem_cons.mpr ⟨List.mem_cons_of_mem _ (List.mem_append_left _ (List.mem_of_getElem? (i := 3) rfl)), List.forall_mem_cons.mpr ⟨List.mem_cons_of_mem _ (List.mem_append_left _ (List.mem_of_getElem? (i := 4) rfl)), List.forall_mem_cons.mpr ⟨List.mem_cons_of_mem _ (List.mem_append_left _ (List.mem_of_getElem? (i := 5) rfl)), List.forall_mem_cons.mpr ⟨List.mem_cons_of_mem _ (List.mem_append_left _ (List.mem_of_getElem? (i := 6) rfl)), fun _ h => absurd h List.not_mem_nil⟩⟩⟩⟩) (by decide +kernel)) gw_X2_fitting_X3_fill
theorem gw_X8_by_X8_isTold : GoodIn W_X8_by W_X8_isTold := fun w h => ⟨List.mem_cons_of_mem _ (List.mem_append_right _ (List.mem_append_right _ (List.mem_append_left _ (h)))), (wI_X8_isTold w h).2⟩
theorem gc_X8_by_120_X8_isTold : GoodIn W_X8_by (wsV RX8 120 RX8 yX8_isTold W_X8_isTold) := goodIn_app (goodIn_sub (List.forall_mem_cons.mpr ⟨List.mem_cons_of_mem _ (List.mem_append_left _ (List.mem_of_getElem? (i := 0) rfl)), List.forall_mem_cons.mpr ⟨List.mem_cons_of_mem _ (List.mem_append_left _ (List.mem_of_getElem? (i := 1) rfl)), List.forall_mem_cons.mpr ⟨List.mem_cons_of_mem _ (List.mem_append_left _ (List.mem_of_getElem? (i := 2) rfl)), List.forall_mem_cons.mpr ⟨List.mem_cons_of_mem _ (List.mem_append_left _ (List.mem_of_getElem? (i := 3) rfl)), fun _ h => absurd h List.not_mem_nil⟩⟩⟩⟩) (by decide +kernel)) gw_X8_by_X8_isTold
theorem gw_X8_by_X2_totalBy : GoodIn W_X8_by W_X2_totalBy := fun w h => ⟨List.mem_cons_of_mem _ (List.mem_append_right _ (List.mem_append_right _ (List.mem_append_right _ (h)))), (wI_X2_totalBy w h).2⟩
theorem gc_X8_by_264_X2_totalBy : GoodIn W_X8_by (wsV RX8 264 RX2 yX2_totalBy W_X2_totalBy) := goodIn_app (goodIn_sub (List.forall_mem_cons.mpr ⟨List.mem_cons_of_mem _ (List.mem_append_left _ (List.mem_of_getElem? (i := 5) rfl)), List.forall_mem_cons.mpr ⟨List.mem_cons_of_mem _ (List.mem_append_left _ (List.mem_of_getElem? (i := 6) rfl)), List.forall_mem_cons.mpr ⟨List.mem_cons_of_mem _ (List.mem_append_left _ (List.mem_of_getElem? (i := 7) rfl)), List.forall_mem_cons.mpr ⟨List.mem_cons_of_mem _ (List.mem_append_left _ (List.mem_of_getElem? (i := 8) rfl)), fun _ h => absurd h List.not_mem_nil⟩⟩⟩⟩) (by decide +kernel)) gw_X8_by_X2_totalBy
theorem gw_X8_fits_J13_bitCount_95d88 : GoodIn W_X8_fits W_J13_bitCount_95d88 := fun w h => ⟨List.mem_cons_of_mem _ (List.mem_append_right _ (List.mem_append_right _ (List.mem_append_right _ (List.mem_append_right _ (List.mem_append_right _ (h)))))), (wI_J13_bitCount_95d88 w h).2⟩
theorem gc_X8_fits_148_J13_bitCount_95d88 : GoodIn W_X8_fits (va_wsS RX8 148 yJ13_bitCount_95d88 W_J13_bitCount_95d88) := goodIn_app (goodIn_sub (List.forall_mem_cons.mpr ⟨List.mem_cons_of_mem _ (List.mem_append_left _ (List.mem_of_getElem? (i := 12) rfl)), List.forall_mem_cons.mpr ⟨List.mem_cons_of_mem _ (List.mem_append_left _ (List.mem_of_getElem? (i := 13) rfl)), List.forall_mem_cons.mpr ⟨List.mem_cons_of_mem _ (List.mem_append_left _ (List.mem_of_getElem? (i := 14) rfl)), fun _ h => absurd h List.not_mem_nil⟩⟩⟩) (by decide +kernel)) gw_X8_fits_J13_bitCount_95d88
theorem gw_X8_fits_X8_refusalOfRow : GoodIn W_X8_fits W_X8_refusalOfRow := fun w h => ⟨List.mem_cons_of_mem _ (List.mem_append_right _ (List.mem_append_right _ (List.mem_append_right _ (List.mem_append_left _ (h))))), (wI_X8_refusalOfRow w h).2⟩
theorem gc_X8_fits_254_X8_refusalOfRow : GoodIn W_X8_fits (wsV RX8 254 RX8 yX8_refusalOfRow W_X8_refusalOfRow) := goodIn_app (goodIn_sub (List.forall_mem_cons.mpr ⟨List.mem_cons_of_mem _ (List.mem_append_left _ (List.mem_of_getElem? (i := 0) rfl)), List.forall_mem_cons.mpr ⟨List.mem_cons_of_mem _ (List.mem_append_left _ (List.mem_of_getElem? (i := 1) rfl)), List.forall_mem_cons.mpr ⟨List.mem_cons_of_mem _ (List.mem_append_left _ (List.mem_of_getElem? (i := 2) rfl)), List.forall_mem_cons.mpr ⟨List.mem_cons_of_mem _ (List.mem_append_left _ (List.mem_of_getElem? (i := 3) rfl)), fun _ h => absurd h List.not_mem_nil⟩⟩⟩⟩) (by decide +kernel)) gw_X8_fits_X8_refusalOfRow
theorem gw_X8_fits_X2_fitting : GoodIn W_X8_fits W_X2_fitting := fun w h => ⟨List.mem_cons_of_mem _ (List.mem_append_right _ (List.mem_append_right _ (List.mem_append_right _ (List.mem_append_right _ (List.mem_append_left _ (h)))))), (wI_X2_fitting w h).2⟩
theorem gc_X8_fits_260_X2_fitting : GoodIn W_X8_fits (wsV RX8 260 RX2 yX2_fitting W_X2_fitting) := goodIn_app (goodIn_sub (List.forall_mem_cons.mpr ⟨List.mem_cons_of_mem _ (List.mem_append_left _ (List.mem_of_getElem? (i := 8) rfl)), List.forall_mem_cons.mpr ⟨List.mem_cons_of_mem _ (List.mem_append_left _ (List.mem_of_getElem? (i := 9) rfl)), List.forall_mem_cons.mpr ⟨List.mem_cons_of_mem _ (List.mem_append_left _ (List.mem_of_getElem? (i := 10) rfl)), List.forall_mem_cons.mpr ⟨List.mem_cons_of_mem _ (List.mem_append_left _ (List.mem_of_getElem? (i := 11) rfl)), fun _ h => absurd h List.not_mem_nil⟩⟩⟩⟩) (by decide +kernel)) gw_X8_fits_X2_fitting
theorem gw_X8_law_X8_isTold : GoodIn W_X8_law W_X8_isTold := fun w h => ⟨List.mem_cons_of_mem _ (List.mem_append_right _ (List.mem_append_right _ (List.mem_append_left _ (h)))), (wI_X8_isTold w h).2⟩
theorem gc_X8_law_120_X8_isTold : GoodIn W_X8_law (wsV RX8 120 RX8 yX8_isTold W_X8_isTold) := goodIn_app (goodIn_sub (List.forall_mem_cons.mpr ⟨List.mem_cons_of_mem _ (List.mem_append_left _ (List.mem_of_getElem? (i := 0) rfl)), List.forall_mem_cons.mpr ⟨List.mem_cons_of_mem _ (List.mem_append_left _ (List.mem_of_getElem? (i := 1) rfl)), List.forall_mem_cons.mpr ⟨List.mem_cons_of_mem _ (List.mem_append_left _ (List.mem_of_getElem? (i := 2) rfl)), List.forall_mem_cons.mpr ⟨List.mem_cons_of_mem _ (List.mem_append_left _ (List.mem_of_getElem? (i := 3) rfl)), fun _ h => absurd h List.not_mem_nil⟩⟩⟩⟩) (by decide +kernel)) gw_X8_law_X8_isTold
theorem gw_X8_law_X2_totalBy : GoodIn W_X8_law W_X2_totalBy := fun w h => ⟨List.mem_cons_of_mem _ (List.mem_append_right _ (List.mem_append_right _ (List.mem_append_right _ (h)))), (wI_X2_totalBy w h).2⟩
theorem gc_X8_law_264_X2_totalBy : GoodIn W_X8_law (wsV RX8 264 RX2 yX2_totalBy W_X2_totalBy) := goodIn_app (goodIn_sub (List.forall_mem_cons.mpr ⟨List.mem_cons_of_mem _ (List.mem_append_left _ (List.mem_of_getElem? (i := 5) rfl)), List.forall_mem_cons.mpr ⟨List.mem_cons_of_mem _ (List.mem_append_left _ (List.mem_of_getElem? (i := 6) rfl)), List.forall_mem_cons.mpr ⟨List.mem_cons_of_mem _ (List.mem_append_left _ (List.mem_of_getElem? (i := 7) rfl)), List.forall_mem_cons.mpr ⟨List.mem_cons_of_mem _ (List.mem_append_left _ (List.mem_of_getElem? (i := 8) rfl)), fun _ h => absurd h List.not_mem_nil⟩⟩⟩⟩) (by decide +kernel)) gw_X8_law_X2_totalBy
theorem gw_X8_laws_X8_refusalOfRow : GoodIn W_X8_laws W_X8_refusalOfRow := fun w h => ⟨List.mem_cons_of_mem _ (List.mem_append_right _ (List.mem_append_right _ (List.mem_append_left _ (h)))), (wI_X8_refusalOfRow w h).2⟩
theorem gc_X8_laws_254_X8_refusalOfRow : GoodIn W_X8_laws (wsV RX8 254 RX8 yX8_refusalOfRow W_X8_refusalOfRow) := goodIn_app (goodIn_sub (List.forall_mem_cons.mpr ⟨List.mem_cons_of_mem _ (List.mem_append_left _ (List.mem_of_getElem? (i := 0) rfl)), List.forall_mem_cons.mpr ⟨List.mem_cons_of_mem _ (List.mem_append_left _ (List.mem_of_getElem? (i := 1) rfl)), List.forall_mem_cons.mpr ⟨List.mem_cons_of_mem _ (List.mem_append_left _ (List.mem_of_getElem? (i := 2) rfl)), List.forall_mem_cons.mpr ⟨List.mem_cons_of_mem _ (List.mem_append_left _ (List.mem_of_getElem? (i := 3) rfl)), fun _ h => absurd h List.not_mem_nil⟩⟩⟩⟩) (by decide +kernel)) gw_X8_laws_X8_refusalOfRow
theorem gw_X8_laws_X2_fitting : GoodIn W_X8_laws W_X2_fitting := fun w h => ⟨List.mem_cons_of_mem _ (List.mem_append_right _ (List.mem_append_right _ (List.mem_append_right _ (h)))), (wI_X2_fitting w h).2⟩
theorem gc_X8_laws_260_X2_fitting : GoodIn W_X8_laws (wsV RX8 260 RX2 yX2_fitting W_X2_fitting) := goodIn_app (goodIn_sub (List.forall_mem_cons.mpr ⟨List.mem_cons_of_mem _ (List.mem_append_left _ (List.mem_of_getElem? (i := 6) rfl)), List.forall_mem_cons.mpr ⟨List.mem_cons_of_mem _ (List.mem_append_left _ (List.mem_of_getElem? (i := 7) rfl)), List.forall_mem_cons.mpr ⟨List.mem_cons_of_mem _ (List.mem_append_left _ (List.mem_of_getElem? (i := 8) rfl)), List.forall_mem_cons.mpr ⟨List.mem_cons_of_mem _ (List.mem_append_left _ (List.mem_of_getElem? (i := 9) rfl)), fun _ h => absurd h List.not_mem_nil⟩⟩⟩⟩) (by decide +kernel)) gw_X8_laws_X2_fitting
theorem gw_X8_refusalOfRow_X8_isTold : GoodIn W_X8_refusalOfRow W_X8_isTold := fun w h => ⟨List.mem_cons_of_mem _ (List.mem_append_right _ (List.mem_append_right _ (List.mem_append_right _ (List.mem_append_right _ (List.mem_append_left _ (h)))))), (wI_X8_isTold w h).2⟩
theorem gc_X8_refusalOfRow_120_X8_isTold : GoodIn W_X8_refusalOfRow (wsV RX8 120 RX8 yX8_isTold W_X8_isTold) := goodIn_app (goodIn_sub (List.forall_mem_cons.mpr ⟨List.mem_cons_of_mem _ (List.mem_append_left _ (List.mem_of_getElem? (i := 0) rfl)), List.forall_mem_cons.mpr ⟨List.mem_cons_of_mem _ (List.mem_append_left _ (List.mem_of_getElem? (i := 1) rfl)), List.forall_mem_cons.mpr ⟨List.mem_cons_of_mem _ (List.mem_append_left _ (List.mem_of_getElem? (i := 2) rfl)), List.forall_mem_cons.mpr ⟨List.mem_cons_of_mem _ (List.mem_append_left _ (List.mem_of_getElem? (i := 3) rfl)), fun _ h => absurd h List.not_mem_nil⟩⟩⟩⟩) (by decide +kernel)) gw_X8_refusalOfRow_X8_isTold
theorem gw_X8_refusalOfRow_X8_noSlot : GoodIn W_X8_refusalOfRow W_X8_noSlot := fun w h => ⟨List.mem_cons_of_mem _ (List.mem_append_right _ (List.mem_append_right _ (List.mem_append_right _ (List.mem_append_right _ (List.mem_append_right _ (h)))))), (wI_X8_noSlot w h).2⟩
theorem gc_X8_refusalOfRow_326_X8_noSlot : GoodIn W_X8_refusalOfRow (wsV RX8 326 RX8 yX8_noSlot W_X8_noSlot) := goodIn_app (goodIn_sub (List.forall_mem_cons.mpr ⟨List.mem_cons_of_mem _ (List.mem_append_left _ (List.mem_of_getElem? (i := 4) rfl)), List.forall_mem_cons.mpr ⟨List.mem_cons_of_mem _ (List.mem_append_left _ (List.mem_of_getElem? (i := 5) rfl)), List.forall_mem_cons.mpr ⟨List.mem_cons_of_mem _ (List.mem_append_left _ (List.mem_of_getElem? (i := 6) rfl)), List.forall_mem_cons.mpr ⟨List.mem_cons_of_mem _ (List.mem_append_left _ (List.mem_of_getElem? (i := 3) rfl)), fun _ h => absurd h List.not_mem_nil⟩⟩⟩⟩) (by decide +kernel)) gw_X8_refusalOfRow_X8_noSlot
theorem gw_X8_which_X8_refusalOfRow : GoodIn W_X8_which W_X8_refusalOfRow := fun w h => ⟨List.mem_cons_of_mem _ (List.mem_append_right _ (List.mem_append_right _ (List.mem_append_right _ (List.mem_append_right _ (List.mem_append_left _ (h)))))), (wI_X8_refusalOfRow w h).2⟩
theorem gc_X8_which_254_X8_refusalOfRow : GoodIn W_X8_which (wsV RX8 254 RX8 yX8_refusalOfRow W_X8_refusalOfRow) := goodIn_app (goodIn_sub (List.forall_mem_cons.mpr ⟨List.mem_cons_of_mem _ (List.mem_append_left _ (List.mem_of_getElem? (i := 0) rfl)), List.forall_mem_cons.mpr ⟨List.mem_cons_of_mem _ (List.mem_append_left _ (List.mem_of_getElem? (i := 1) rfl)), List.forall_mem_cons.mpr ⟨List.mem_cons_of_mem _ (List.mem_append_left _ (List.mem_of_getElem? (i := 2) rfl)), List.forall_mem_cons.mpr ⟨List.mem_cons_of_mem _ (List.mem_append_left _ (List.mem_of_getElem? (i := 3) rfl)), fun _ h => absurd h List.not_mem_nil⟩⟩⟩⟩) (by decide +kernel)) gw_X8_which_X8_refusalOfRow
theorem gw_X8_which_X2_fitting : GoodIn W_X8_which W_X2_fitting := fun w h => ⟨List.mem_cons_of_mem _ (List.mem_append_right _ (List.mem_append_right _ (List.mem_append_right _ (List.mem_append_right _ (List.mem_append_right _ (h)))))), (wI_X2_fitting w h).2⟩
theorem gc_X8_which_260_X2_fitting : GoodIn W_X8_which (wsV RX8 260 RX2 yX2_fitting W_X2_fitting) := goodIn_app (goodIn_sub (List.forall_mem_cons.mpr ⟨List.mem_cons_of_mem _ (List.mem_append_left _ (List.mem_of_getElem? (i := 8) rfl)), List.forall_mem_cons.mpr ⟨List.mem_cons_of_mem _ (List.mem_append_left _ (List.mem_of_getElem? (i := 9) rfl)), List.forall_mem_cons.mpr ⟨List.mem_cons_of_mem _ (List.mem_append_left _ (List.mem_of_getElem? (i := 10) rfl)), List.forall_mem_cons.mpr ⟨List.mem_cons_of_mem _ (List.mem_append_left _ (List.mem_of_getElem? (i := 11) rfl)), fun _ h => absurd h List.not_mem_nil⟩⟩⟩⟩) (by decide +kernel)) gw_X8_which_X2_fitting
