theorem dX8_back_0 : decode cX8_back 0 = .ok (.iload_n 1, 1) := by decide +kernel
theorem dX8_back_1 : decode cX8_back 1 = .ok (.ifCond .lt 8, 3) := by decide +kernel
theorem dX8_back_4 : decode cX8_back 4 = .ok (.iload_n 1, 1) := by decide +kernel
theorem dX8_back_5 : decode cX8_back 5 = .ok (.iconst 3, 1) := by decide +kernel
theorem dX8_back_6 : decode cX8_back 6 = .ok (.if_icmp .lt 6, 3) := by decide +kernel
theorem dX8_back_9 : decode cX8_back 9 = .ok (.bipush (-2), 2) := by decide +kernel
theorem dX8_back_11 : decode cX8_back 11 = .ok (.ireturn, 1) := by decide +kernel
theorem dX8_back_12 : decode cX8_back 12 = .ok (.aload_n 0, 1) := by decide +kernel
theorem dX8_back_13 : decode cX8_back 13 = .ok (.getfield 64, 3) := by decide +kernel
theorem dX8_back_16 : decode cX8_back 16 = .ok (.iload_n 1, 1) := by decide +kernel
theorem dX8_back_17 : decode cX8_back 17 = .ok (.baload, 1) := by decide +kernel
theorem dX8_back_18 : decode cX8_back 18 = .ok (.ifCond .ne 6, 3) := by decide +kernel
theorem dX8_back_21 : decode cX8_back 21 = .ok (.bipush (-6), 2) := by decide +kernel
theorem dX8_back_23 : decode cX8_back 23 = .ok (.ireturn, 1) := by decide +kernel
theorem dX8_back_24 : decode cX8_back 24 = .ok (.aload_n 0, 1) := by decide +kernel
theorem dX8_back_25 : decode cX8_back 25 = .ok (.aload_n 0, 1) := by decide +kernel
theorem dX8_back_26 : decode cX8_back 26 = .ok (.getfield 60, 3) := by decide +kernel
theorem dX8_back_29 : decode cX8_back 29 = .ok (.iload_n 1, 1) := by decide +kernel
theorem dX8_back_30 : decode cX8_back 30 = .ok (.aaload, 1) := by decide +kernel
theorem dX8_back_31 : decode cX8_back 31 = .ok (.invokevirtual 87, 3) := by decide +kernel
theorem dX8_back_34 : decode cX8_back 34 = .ok (.iconst 0, 1) := by decide +kernel
theorem dX8_back_35 : decode cX8_back 35 = .ok (.ireturn, 1) := by decide +kernel
theorem dX8_base_0 : decode cX8_base 0 = .ok (.aload_n 0, 1) := by decide +kernel
theorem dX8_base_1 : decode cX8_base 1 = .ok (.getfield 31, 3) := by decide +kernel
theorem dX8_base_4 : decode cX8_base 4 = .ok (.invokevirtual 83, 3) := by decide +kernel
theorem dX8_base_7 : decode cX8_base 7 = .ok (.istore_n 1, 1) := by decide +kernel
theorem dX8_base_8 : decode cX8_base 8 = .ok (.aload_n 0, 1) := by decide +kernel
theorem dX8_base_9 : decode cX8_base 9 = .ok (.getfield 10, 3) := by decide +kernel
theorem dX8_base_12 : decode cX8_base 12 = .ok (.iconst 0, 1) := by decide +kernel
theorem dX8_base_13 : decode cX8_base 13 = .ok (.putfield 75, 3) := by decide +kernel
theorem dX8_base_16 : decode cX8_base 16 = .ok (.iload_n 1, 1) := by decide +kernel
theorem dX8_base_17 : decode cX8_base 17 = .ok (.ifCond .ne 6, 3) := by decide +kernel
theorem dX8_base_20 : decode cX8_base 20 = .ok (.bipush (-4), 2) := by decide +kernel
theorem dX8_base_22 : decode cX8_base 22 = .ok (.ireturn, 1) := by decide +kernel
theorem dX8_base_23 : decode cX8_base 23 = .ok (.aload_n 0, 1) := by decide +kernel
theorem dX8_base_24 : decode cX8_base 24 = .ok (.aload_n 0, 1) := by decide +kernel
theorem dX8_base_25 : decode cX8_base 25 = .ok (.getfield 19, 3) := by decide +kernel
theorem dX8_base_28 : decode cX8_base 28 = .ok (.invokevirtual 87, 3) := by decide +kernel
theorem dX8_base_31 : decode cX8_base 31 = .ok (.aload_n 0, 1) := by decide +kernel
theorem dX8_base_32 : decode cX8_base 32 = .ok (.getfield 23, 3) := by decide +kernel
theorem dX8_base_35 : decode cX8_base 35 = .ok (.getfield 91, 3) := by decide +kernel
theorem dX8_base_38 : decode cX8_base 38 = .ok (.ireturn, 1) := by decide +kernel
theorem dX8_become_0 : decode cX8_become 0 = .ok (.aload_n 0, 1) := by decide +kernel
theorem dX8_become_1 : decode cX8_become 1 = .ok (.getfield 23, 3) := by decide +kernel
theorem dX8_become_4 : decode cX8_become 4 = .ok (.aload_n 1, 1) := by decide +kernel
theorem dX8_become_5 : decode cX8_become 5 = .ok (.invokevirtual 323, 3) := by decide +kernel
theorem dX8_become_8 : decode cX8_become 8 = .ok (.aload_n 0, 1) := by decide +kernel
theorem dX8_become_9 : decode cX8_become 9 = .ok (.getfield 38, 3) := by decide +kernel
theorem dX8_become_12 : decode cX8_become 12 = .ok (.aload_n 0, 1) := by decide +kernel
theorem dX8_become_13 : decode cX8_become 13 = .ok (.getfield 23, 3) := by decide +kernel
theorem dX8_become_16 : decode cX8_become 16 = .ok (.invokevirtual 357, 3) := by decide +kernel
theorem dX8_become_19 : decode cX8_become 19 = .ok (.aload_n 0, 1) := by decide +kernel
theorem dX8_become_20 : decode cX8_become 20 = .ok (.getfield 47, 3) := by decide +kernel
theorem dX8_become_23 : decode cX8_become 23 = .ok (.invokevirtual 310, 3) := by decide +kernel
theorem dX8_become_26 : decode cX8_become 26 = .ok (.return_, 1) := by decide +kernel
theorem dX8_count_0 : decode cX8_count 0 = .ok (.iload_n 1, 1) := by decide +kernel
theorem dX8_count_1 : decode cX8_count 1 = .ok (.tableswitch 132 0 9 #[55, 63, 71, 79, 87, 95, 103, 111, 119, 127], 55) := by decide +kernel
theorem dX8_count_56 : decode cX8_count 56 = .ok (.aload_n 0, 1) := by decide +kernel
theorem dX8_count_57 : decode cX8_count 57 = .ok (.getfield 23, 3) := by decide +kernel
theorem dX8_count_60 : decode cX8_count 60 = .ok (.getfield 313, 3) := by decide +kernel
theorem dX8_count_63 : decode cX8_count 63 = .ok (.ireturn, 1) := by decide +kernel
theorem dX8_count_64 : decode cX8_count 64 = .ok (.aload_n 0, 1) := by decide +kernel
theorem dX8_count_65 : decode cX8_count 65 = .ok (.getfield 23, 3) := by decide +kernel
theorem dX8_count_68 : decode cX8_count 68 = .ok (.getfield 257, 3) := by decide +kernel
theorem dX8_count_71 : decode cX8_count 71 = .ok (.ireturn, 1) := by decide +kernel
theorem dX8_count_72 : decode cX8_count 72 = .ok (.aload_n 0, 1) := by decide +kernel
theorem dX8_count_73 : decode cX8_count 73 = .ok (.getfield 23, 3) := by decide +kernel
theorem dX8_count_76 : decode cX8_count 76 = .ok (.getfield 316, 3) := by decide +kernel
theorem dX8_count_79 : decode cX8_count 79 = .ok (.ireturn, 1) := by decide +kernel
theorem dX8_count_80 : decode cX8_count 80 = .ok (.aload_n 0, 1) := by decide +kernel
theorem dX8_count_81 : decode cX8_count 81 = .ok (.getfield 23, 3) := by decide +kernel
theorem dX8_count_84 : decode cX8_count 84 = .ok (.getfield 158, 3) := by decide +kernel
theorem dX8_count_87 : decode cX8_count 87 = .ok (.ireturn, 1) := by decide +kernel
theorem dX8_count_88 : decode cX8_count 88 = .ok (.aload_n 0, 1) := by decide +kernel
theorem dX8_count_89 : decode cX8_count 89 = .ok (.getfield 23, 3) := by decide +kernel
theorem dX8_count_92 : decode cX8_count 92 = .ok (.getfield 164, 3) := by decide +kernel
theorem dX8_count_95 : decode cX8_count 95 = .ok (.ireturn, 1) := by decide +kernel
theorem dX8_count_96 : decode cX8_count 96 = .ok (.aload_n 0, 1) := by decide +kernel
theorem dX8_count_97 : decode cX8_count 97 = .ok (.getfield 23, 3) := by decide +kernel
theorem dX8_count_100 : decode cX8_count 100 = .ok (.getfield 183, 3) := by decide +kernel
theorem dX8_count_103 : decode cX8_count 103 = .ok (.ireturn, 1) := by decide +kernel
theorem dX8_count_104 : decode cX8_count 104 = .ok (.aload_n 0, 1) := by decide +kernel
theorem dX8_count_105 : decode cX8_count 105 = .ok (.getfield 23, 3) := by decide +kernel
theorem dX8_count_108 : decode cX8_count 108 = .ok (.getfield 304, 3) := by decide +kernel
theorem dX8_count_111 : decode cX8_count 111 = .ok (.ireturn, 1) := by decide +kernel
theorem dX8_count_112 : decode cX8_count 112 = .ok (.aload_n 0, 1) := by decide +kernel
theorem dX8_count_113 : decode cX8_count 113 = .ok (.getfield 23, 3) := by decide +kernel
theorem dX8_count_116 : decode cX8_count 116 = .ok (.getfield 91, 3) := by decide +kernel
theorem dX8_count_119 : decode cX8_count 119 = .ok (.ireturn, 1) := by decide +kernel
theorem dX8_count_120 : decode cX8_count 120 = .ok (.aload_n 0, 1) := by decide +kernel
theorem dX8_count_121 : decode cX8_count 121 = .ok (.getfield 10, 3) := by decide +kernel
theorem dX8_count_124 : decode cX8_count 124 = .ok (.getfield 75, 3) := by decide +kernel
theorem dX8_count_127 : decode cX8_count 127 = .ok (.ireturn, 1) := by decide +kernel
theorem dX8_count_128 : decode cX8_count 128 = .ok (.aload_n 0, 1) := by decide +kernel
theorem dX8_count_129 : decode cX8_count 129 = .ok (.invokevirtual 319, 3) := by decide +kernel
theorem dX8_count_132 : decode cX8_count 132 = .ok (.ireturn, 1) := by decide +kernel
theorem dX8_count_133 : decode cX8_count 133 = .ok (.iconst (-1), 1) := by decide +kernel
theorem dX8_count_134 : decode cX8_count 134 = .ok (.ireturn, 1) := by decide +kernel
theorem dX8_image_0 : decode cX8_image 0 = .ok (.iload_n 1, 1) := by decide +kernel
theorem dX8_image_1 : decode cX8_image 1 = .ok (.ifCond .lt 8, 3) := by decide +kernel
theorem dX8_image_4 : decode cX8_image 4 = .ok (.iload_n 1, 1) := by decide +kernel
theorem dX8_image_5 : decode cX8_image 5 = .ok (.iconst 3, 1) := by decide +kernel
theorem dX8_image_6 : decode cX8_image 6 = .ok (.if_icmp .lt 6, 3) := by decide +kernel
theorem dX8_image_9 : decode cX8_image 9 = .ok (.bipush (-2), 2) := by decide +kernel
theorem dX8_image_11 : decode cX8_image 11 = .ok (.ireturn, 1) := by decide +kernel
theorem dX8_image_12 : decode cX8_image 12 = .ok (.aload_n 0, 1) := by decide +kernel
theorem dX8_image_13 : decode cX8_image 13 = .ok (.getfield 60, 3) := by decide +kernel
theorem dX8_image_16 : decode cX8_image 16 = .ok (.iload_n 1, 1) := by decide +kernel
theorem dX8_image_17 : decode cX8_image 17 = .ok (.aaload, 1) := by decide +kernel
theorem dX8_image_18 : decode cX8_image 18 = .ok (.aload_n 0, 1) := by decide +kernel
theorem dX8_image_19 : decode cX8_image 19 = .ok (.getfield 23, 3) := by decide +kernel
theorem dX8_image_22 : decode cX8_image 22 = .ok (.invokevirtual 323, 3) := by decide +kernel
theorem dX8_image_25 : decode cX8_image 25 = .ok (.aload_n 0, 1) := by decide +kernel
theorem dX8_image_26 : decode cX8_image 26 = .ok (.getfield 64, 3) := by decide +kernel
theorem dX8_image_29 : decode cX8_image 29 = .ok (.iload_n 1, 1) := by decide +kernel
theorem dX8_image_30 : decode cX8_image 30 = .ok (.iconst 1, 1) := by decide +kernel
theorem dX8_image_31 : decode cX8_image 31 = .ok (.bastore, 1) := by decide +kernel
theorem dX8_image_32 : decode cX8_image 32 = .ok (.iconst 0, 1) := by decide +kernel
theorem dX8_image_33 : decode cX8_image 33 = .ok (.ireturn, 1) := by decide +kernel
theorem dX8_paste_0 : decode cX8_paste 0 = .ok (.aload_n 0, 1) := by decide +kernel
theorem dX8_paste_1 : decode cX8_paste 1 = .ok (.iload_n 1, 1) := by decide +kernel
theorem dX8_paste_2 : decode cX8_paste 2 = .ok (.invokevirtual 326, 3) := by decide +kernel
theorem dX8_paste_5 : decode cX8_paste 5 = .ok (.ifCond .ne 11, 3) := by decide +kernel
theorem dX8_paste_8 : decode cX8_paste 8 = .ok (.aload_n 0, 1) := by decide +kernel
theorem dX8_paste_9 : decode cX8_paste 9 = .ok (.iload_n 3, 1) := by decide +kernel
theorem dX8_paste_10 : decode cX8_paste 10 = .ok (.invokevirtual 326, 3) := by decide +kernel
theorem dX8_paste_13 : decode cX8_paste 13 = .ok (.ifCond .eq 6, 3) := by decide +kernel
theorem dX8_paste_16 : decode cX8_paste 16 = .ok (.bipush (-2), 2) := by decide +kernel
theorem dX8_paste_18 : decode cX8_paste 18 = .ok (.ireturn, 1) := by decide +kernel
theorem dX8_paste_19 : decode cX8_paste 19 = .ok (.aload_n 0, 1) := by decide +kernel
theorem dX8_paste_20 : decode cX8_paste 20 = .ok (.getfield 70, 3) := by decide +kernel
theorem dX8_paste_23 : decode cX8_paste 23 = .ok (.iload_n 1, 1) := by decide +kernel
theorem dX8_paste_24 : decode cX8_paste 24 = .ok (.aaload, 1) := by decide +kernel
theorem dX8_paste_25 : decode cX8_paste 25 = .ok (.astore 6, 2) := by decide +kernel
theorem dX8_paste_27 : decode cX8_paste 27 = .ok (.aload_n 0, 1) := by decide +kernel
theorem dX8_paste_28 : decode cX8_paste 28 = .ok (.getfield 70, 3) := by decide +kernel
theorem dX8_paste_31 : decode cX8_paste 31 = .ok (.iload_n 3, 1) := by decide +kernel
theorem dX8_paste_32 : decode cX8_paste 32 = .ok (.aaload, 1) := by decide +kernel
theorem dX8_paste_33 : decode cX8_paste 33 = .ok (.astore 7, 2) := by decide +kernel
theorem dX8_paste_35 : decode cX8_paste 35 = .ok (.aload 6, 2) := by decide +kernel
theorem dX8_paste_37 : decode cX8_paste 37 = .ok (.getfield 333, 3) := by decide +kernel
theorem dX8_paste_40 : decode cX8_paste 40 = .ok (.ifCond .eq 11, 3) := by decide +kernel
theorem dX8_paste_43 : decode cX8_paste 43 = .ok (.aload 7, 2) := by decide +kernel
theorem dX8_paste_45 : decode cX8_paste 45 = .ok (.getfield 333, 3) := by decide +kernel
theorem dX8_paste_48 : decode cX8_paste 48 = .ok (.ifCond .ne 6, 3) := by decide +kernel
theorem dX8_paste_51 : decode cX8_paste 51 = .ok (.bipush (-6), 2) := by decide +kernel
theorem dX8_paste_53 : decode cX8_paste 53 = .ok (.ireturn, 1) := by decide +kernel
theorem dX8_paste_54 : decode cX8_paste 54 = .ok (.aload 6, 2) := by decide +kernel
theorem dX8_paste_56 : decode cX8_paste 56 = .ok (.getfield 345, 3) := by decide +kernel
theorem dX8_paste_59 : decode cX8_paste 59 = .ok (.aload 7, 2) := by decide +kernel
theorem dX8_paste_61 : decode cX8_paste 61 = .ok (.getfield 345, 3) := by decide +kernel
theorem dX8_paste_64 : decode cX8_paste 64 = .ok (.if_icmp .eq 6, 3) := by decide +kernel
theorem dX8_paste_67 : decode cX8_paste 67 = .ok (.bipush (-8), 2) := by decide +kernel
theorem dX8_paste_69 : decode cX8_paste 69 = .ok (.ireturn, 1) := by decide +kernel
theorem dX8_paste_70 : decode cX8_paste 70 = .ok (.aload 6, 2) := by decide +kernel
theorem dX8_paste_72 : decode cX8_paste 72 = .ok (.iload_n 2, 1) := by decide +kernel
theorem dX8_paste_73 : decode cX8_paste 73 = .ok (.iload 5, 2) := by decide +kernel
theorem dX8_paste_75 : decode cX8_paste 75 = .ok (.invokevirtual 348, 3) := by decide +kernel
theorem dX8_paste_78 : decode cX8_paste 78 = .ok (.ifCond .eq 15, 3) := by decide +kernel
theorem dX8_paste_81 : decode cX8_paste 81 = .ok (.aload 7, 2) := by decide +kernel
theorem dX8_paste_83 : decode cX8_paste 83 = .ok (.iload 4, 2) := by decide +kernel
theorem dX8_paste_85 : decode cX8_paste 85 = .ok (.iload 5, 2) := by decide +kernel
theorem dX8_paste_87 : decode cX8_paste 87 = .ok (.invokevirtual 348, 3) := by decide +kernel
theorem dX8_paste_90 : decode cX8_paste 90 = .ok (.ifCond .ne 6, 3) := by decide +kernel
theorem dX8_paste_93 : decode cX8_paste 93 = .ok (.bipush (-7), 2) := by decide +kernel
theorem dX8_paste_95 : decode cX8_paste 95 = .ok (.ireturn, 1) := by decide +kernel
theorem dX8_paste_96 : decode cX8_paste 96 = .ok (.aload 6, 2) := by decide +kernel
theorem dX8_paste_98 : decode cX8_paste 98 = .ok (.getfield 338, 3) := by decide +kernel
theorem dX8_paste_101 : decode cX8_paste 101 = .ok (.iload_n 2, 1) := by decide +kernel
theorem dX8_paste_102 : decode cX8_paste 102 = .ok (.aload 7, 2) := by decide +kernel
theorem dX8_paste_104 : decode cX8_paste 104 = .ok (.getfield 338, 3) := by decide +kernel
theorem dX8_paste_107 : decode cX8_paste 107 = .ok (.iload 4, 2) := by decide +kernel
theorem dX8_paste_109 : decode cX8_paste 109 = .ok (.iload 5, 2) := by decide +kernel
theorem dX8_paste_111 : decode cX8_paste 111 = .ok (.invokestatic 351, 3) := by decide +kernel
theorem dX8_paste_114 : decode cX8_paste 114 = .ok (.iconst 0, 1) := by decide +kernel
theorem dX8_paste_115 : decode cX8_paste 115 = .ok (.ireturn, 1) := by decide +kernel
theorem dX8_row_0 : decode cX8_row 0 = .ok (.aload_n 0, 1) := by decide +kernel
theorem dX8_row_1 : decode cX8_row 1 = .ok (.iload_n 1, 1) := by decide +kernel
theorem dX8_row_2 : decode cX8_row 2 = .ok (.invokevirtual 326, 3) := by decide +kernel
theorem dX8_row_5 : decode cX8_row 5 = .ok (.ifCond .ne 18, 3) := by decide +kernel
theorem dX8_row_8 : decode cX8_row 8 = .ok (.iload_n 2, 1) := by decide +kernel
theorem dX8_row_9 : decode cX8_row 9 = .ok (.ifCond .lt 14, 3) := by decide +kernel
theorem dX8_row_12 : decode cX8_row 12 = .ok (.iload_n 2, 1) := by decide +kernel
theorem dX8_row_13 : decode cX8_row 13 = .ok (.iconst 4, 1) := by decide +kernel
theorem dX8_row_14 : decode cX8_row 14 = .ok (.if_icmp .ge 9, 3) := by decide +kernel
theorem dX8_row_17 : decode cX8_row 17 = .ok (.iload_n 3, 1) := by decide +kernel
theorem dX8_row_18 : decode cX8_row 18 = .ok (.bipush 60, 2) := by decide +kernel
theorem dX8_row_20 : decode cX8_row 20 = .ok (.if_icmp .le 6, 3) := by decide +kernel
theorem dX8_row_23 : decode cX8_row 23 = .ok (.bipush (-2), 2) := by decide +kernel
theorem dX8_row_25 : decode cX8_row 25 = .ok (.ireturn, 1) := by decide +kernel
theorem dX8_row_26 : decode cX8_row 26 = .ok (.iload_n 3, 1) := by decide +kernel
theorem dX8_row_27 : decode cX8_row 27 = .ok (.ifCond .ge 6, 3) := by decide +kernel
theorem dX8_row_30 : decode cX8_row 30 = .ok (.bipush (-3), 2) := by decide +kernel
theorem dX8_row_32 : decode cX8_row 32 = .ok (.ireturn, 1) := by decide +kernel
theorem dX8_row_33 : decode cX8_row 33 = .ok (.aload_n 0, 1) := by decide +kernel
theorem dX8_row_34 : decode cX8_row 34 = .ok (.getfield 70, 3) := by decide +kernel
theorem dX8_row_37 : decode cX8_row 37 = .ok (.iload_n 1, 1) := by decide +kernel
theorem dX8_row_38 : decode cX8_row 38 = .ok (.aaload, 1) := by decide +kernel
theorem dX8_row_39 : decode cX8_row 39 = .ok (.iload_n 2, 1) := by decide +kernel
theorem dX8_row_40 : decode cX8_row 40 = .ok (.iload_n 3, 1) := by decide +kernel
theorem dX8_row_41 : decode cX8_row 41 = .ok (.invokevirtual 329, 3) := by decide +kernel
theorem dX8_row_44 : decode cX8_row 44 = .ok (.iconst 0, 1) := by decide +kernel
theorem dX8_row_45 : decode cX8_row 45 = .ok (.ireturn, 1) := by decide +kernel
theorem dX8_slotsInUse_0 : decode cX8_slotsInUse 0 = .ok (.iconst 0, 1) := by decide +kernel
theorem dX8_slotsInUse_1 : decode cX8_slotsInUse 1 = .ok (.istore_n 1, 1) := by decide +kernel
theorem dX8_slotsInUse_2 : decode cX8_slotsInUse 2 = .ok (.iconst 0, 1) := by decide +kernel
theorem dX8_slotsInUse_3 : decode cX8_slotsInUse 3 = .ok (.istore_n 2, 1) := by decide +kernel
theorem dX8_slotsInUse_4 : decode cX8_slotsInUse 4 = .ok (.iload_n 2, 1) := by decide +kernel
theorem dX8_slotsInUse_5 : decode cX8_slotsInUse 5 = .ok (.iconst 4, 1) := by decide +kernel
theorem dX8_slotsInUse_6 : decode cX8_slotsInUse 6 = .ok (.if_icmp .ge 24, 3) := by decide +kernel
theorem dX8_slotsInUse_9 : decode cX8_slotsInUse 9 = .ok (.aload_n 0, 1) := by decide +kernel
theorem dX8_slotsInUse_10 : decode cX8_slotsInUse 10 = .ok (.getfield 70, 3) := by decide +kernel
theorem dX8_slotsInUse_13 : decode cX8_slotsInUse 13 = .ok (.iload_n 2, 1) := by decide +kernel
theorem dX8_slotsInUse_14 : decode cX8_slotsInUse 14 = .ok (.aaload, 1) := by decide +kernel
theorem dX8_slotsInUse_15 : decode cX8_slotsInUse 15 = .ok (.getfield 333, 3) := by decide +kernel
theorem dX8_slotsInUse_18 : decode cX8_slotsInUse 18 = .ok (.ifCond .eq 6, 3) := by decide +kernel
theorem dX8_slotsInUse_21 : decode cX8_slotsInUse 21 = .ok (.iinc 1 1, 3) := by decide +kernel
theorem dX8_slotsInUse_24 : decode cX8_slotsInUse 24 = .ok (.iinc 2 1, 3) := by decide +kernel
theorem dX8_slotsInUse_27 : decode cX8_slotsInUse 27 = .ok (.goto (-23), 3) := by decide +kernel
theorem dX8_slotsInUse_30 : decode cX8_slotsInUse 30 = .ok (.iload_n 1, 1) := by decide +kernel
theorem dX8_slotsInUse_31 : decode cX8_slotsInUse 31 = .ok (.ireturn, 1) := by decide +kernel
theorem dX8_write_0 : decode cX8_write 0 = .ok (.aload_n 0, 1) := by decide +kernel
theorem dX8_write_1 : decode cX8_write 1 = .ok (.iload_n 1, 1) := by decide +kernel
theorem dX8_write_2 : decode cX8_write 2 = .ok (.invokevirtual 326, 3) := by decide +kernel
theorem dX8_write_5 : decode cX8_write 5 = .ok (.ifCond .eq 6, 3) := by decide +kernel
theorem dX8_write_8 : decode cX8_write 8 = .ok (.bipush (-2), 2) := by decide +kernel
theorem dX8_write_10 : decode cX8_write 10 = .ok (.ireturn, 1) := by decide +kernel
theorem dX8_write_11 : decode cX8_write 11 = .ok (.aload_n 0, 1) := by decide +kernel
theorem dX8_write_12 : decode cX8_write 12 = .ok (.getfield 70, 3) := by decide +kernel
theorem dX8_write_15 : decode cX8_write 15 = .ok (.iload_n 1, 1) := by decide +kernel
theorem dX8_write_16 : decode cX8_write 16 = .ok (.aaload, 1) := by decide +kernel
theorem dX8_write_17 : decode cX8_write 17 = .ok (.astore 5, 2) := by decide +kernel
theorem dX8_write_19 : decode cX8_write 19 = .ok (.aload 5, 2) := by decide +kernel
theorem dX8_write_21 : decode cX8_write 21 = .ok (.getfield 333, 3) := by decide +kernel
theorem dX8_write_24 : decode cX8_write 24 = .ok (.ifCond .ne 6, 3) := by decide +kernel
theorem dX8_write_27 : decode cX8_write 27 = .ok (.bipush (-6), 2) := by decide +kernel
theorem dX8_write_29 : decode cX8_write 29 = .ok (.ireturn, 1) := by decide +kernel
theorem dX8_write_30 : decode cX8_write 30 = .ok (.iload_n 2, 1) := by decide +kernel
theorem dX8_write_31 : decode cX8_write 31 = .ok (.ifCond .lt 12, 3) := by decide +kernel
theorem dX8_write_34 : decode cX8_write 34 = .ok (.iload_n 2, 1) := by decide +kernel
theorem dX8_write_35 : decode cX8_write 35 = .ok (.aload 5, 2) := by decide +kernel
theorem dX8_write_37 : decode cX8_write 37 = .ok (.getfield 337, 3) := by decide +kernel
theorem dX8_write_40 : decode cX8_write 40 = .ok (.if_icmp .lt 6, 3) := by decide +kernel
theorem dX8_write_43 : decode cX8_write 43 = .ok (.bipush (-7), 2) := by decide +kernel
theorem dX8_write_45 : decode cX8_write 45 = .ok (.ireturn, 1) := by decide +kernel
theorem dX8_write_46 : decode cX8_write 46 = .ok (.aload 5, 2) := by decide +kernel
theorem dX8_write_48 : decode cX8_write 48 = .ok (.getfield 338, 3) := by decide +kernel
theorem dX8_write_51 : decode cX8_write 51 = .ok (.iload_n 2, 1) := by decide +kernel
theorem dX8_write_52 : decode cX8_write 52 = .ok (.aload 5, 2) := by decide +kernel
theorem dX8_write_54 : decode cX8_write 54 = .ok (.lload_n 3, 1) := by decide +kernel
theorem dX8_write_55 : decode cX8_write 55 = .ok (.invokevirtual 341, 3) := by decide +kernel
theorem dX8_write_58 : decode cX8_write 58 = .ok (.lastore, 1) := by decide +kernel
theorem dX8_write_59 : decode cX8_write 59 = .ok (.iconst 0, 1) := by decide +kernel
theorem dX8_write_60 : decode cX8_write 60 = .ok (.ireturn, 1) := by decide +kernel
theorem iuX8_back_X8 : ∀ w ∈ u_ws RX8 TX8 10, w ∈ W_X8_back := fun w h => List.mem_cons_of_mem _ (List.mem_append_right _ (List.mem_append_left _ (h)))
theorem iuX8_base_X0 : ∀ w ∈ u_ws RX0 TX0 15, w ∈ W_X8_base := fun w h => List.mem_cons_of_mem _ (List.mem_append_right _ (List.mem_append_right _ (List.mem_append_right _ (List.mem_append_left _ (h)))))
theorem iuX8_base_X7 : ∀ w ∈ u_ws RX7 TX7 2, w ∈ W_X8_base := fun w h => List.mem_cons_of_mem _ (List.mem_append_right _ (List.mem_append_right _ (List.mem_append_left _ (h))))
theorem iuX8_base_X8 : ∀ w ∈ u_ws RX8 TX8 10, w ∈ W_X8_base := fun w h => List.mem_cons_of_mem _ (List.mem_append_right _ (List.mem_append_left _ (h)))
theorem iuX8_become_X8 : ∀ w ∈ u_ws RX8 TX8 10, w ∈ W_X8_become := fun w h => List.mem_cons_of_mem _ (List.mem_append_right _ (List.mem_append_left _ (h)))
theorem iuX8_count_X0 : ∀ w ∈ u_ws RX0 TX0 15, w ∈ W_X8_count := fun w h => List.mem_cons_of_mem _ (List.mem_append_right _ (List.mem_append_right _ (List.mem_append_left _ (h))))
theorem iuX8_count_X7 : ∀ w ∈ u_ws RX7 TX7 2, w ∈ W_X8_count := fun w h => List.mem_cons_of_mem _ (List.mem_append_right _ (List.mem_append_right _ (List.mem_append_right _ (List.mem_append_left _ (h)))))
theorem iuX8_count_X8 : ∀ w ∈ u_ws RX8 TX8 10, w ∈ W_X8_count := fun w h => List.mem_cons_of_mem _ (List.mem_append_right _ (List.mem_append_left _ (h)))
theorem iuX8_image_X8 : ∀ w ∈ u_ws RX8 TX8 10, w ∈ W_X8_image := fun w h => List.mem_cons_of_mem _ (List.mem_append_right _ (List.mem_append_left _ (h)))
theorem iuX8_paste_X5 : ∀ w ∈ u_ws RX5 TX5 4, w ∈ W_X8_paste := fun w h => List.mem_cons_of_mem _ (List.mem_append_right _ (List.mem_append_right _ (List.mem_append_left _ (h))))
theorem iuX8_paste_X8 : ∀ w ∈ u_ws RX8 TX8 10, w ∈ W_X8_paste := fun w h => List.mem_cons_of_mem _ (List.mem_append_right _ (List.mem_append_left _ (h)))
theorem iuX8_row_X8 : ∀ w ∈ u_ws RX8 TX8 10, w ∈ W_X8_row := fun w h => List.mem_cons_of_mem _ (List.mem_append_right _ (List.mem_append_left _ (h)))
theorem iuX8_slotsInUse_X5 : ∀ w ∈ u_ws RX5 TX5 4, w ∈ W_X8_slotsInUse := fun w h => List.mem_cons_of_mem _ (List.mem_append_right _ (List.mem_append_right _ (h)))
theorem iuX8_slotsInUse_X8 : ∀ w ∈ u_ws RX8 TX8 10, w ∈ W_X8_slotsInUse := fun w h => List.mem_cons_of_mem _ (List.mem_append_right _ (List.mem_append_left _ (h)))
theorem iuX8_write_X5 : ∀ w ∈ u_ws RX5 TX5 4, w ∈ W_X8_write := fun w h => List.mem_cons_of_mem _ (List.mem_append_right _ (List.mem_append_right _ (List.mem_append_left _ (h))))
theorem iuX8_write_X8 : ∀ w ∈ u_ws RX8 TX8 10, w ∈ W_X8_write := fun w h => List.mem_cons_of_mem _ (List.mem_append_right _ (List.mem_append_left _ (h)))
theorem gw_X8_back_X8_become : GoodIn W_X8_back W_X8_become := fun w h => ⟨List.mem_cons_of_mem _ (List.mem_append_right _ (List.mem_append_right _ (h))), (wI_X8_become w h).2⟩
theorem gc_X8_back_87_X8_become : GoodIn W_X8_back (wsV RX8 87 RX8 yX8_become W_X8_become) := goodIn_app (goodIn_sub (List.forall_mem_cons.mpr ⟨List.mem_cons_of_mem _ (List.mem_append_left _ (List.mem_of_getElem? (i := 2) rfl)), List.forall_mem_cons.mpr ⟨List.mem_cons_of_mem _ (List.mem_append_left _ (List.mem_of_getElem? (i := 3) rfl)), List.forall_mem_cons.mpr ⟨List.mem_cons_of_mem _ (List.mem_append_left _ (List.mem_of_getElem? (i := 4) rfl)), List.forall_mem_cons.mpr ⟨List.mem_cons_of_mem _ (List.mem_append_left _ (List.mem_of_getElem? (i := 5) rfl)), fun _ h => absurd h List.not_mem_nil⟩⟩⟩⟩) (by decide +kernel)) gw_X8_back_X8_become
theorem gw_X8_base_X4_readTape : GoodIn W_X8_base W_X4_readTape := fun w h => ⟨List.mem_cons_of_mem _ (List.mem_append_right _ (List.mem_append_right _ (List.mem_append_right _ (List.mem_append_right _ (List.mem_append_left _ (h)))))), (wI_X4_readTape w h).2⟩
theorem gc_X8_base_83_X4_readTape : GoodIn W_X8_base (wsV RX8 83 RX4 yX4_readTape W_X4_readTape) := goodIn_app (goodIn_sub (List.forall_mem_cons.mpr ⟨List.mem_cons_of_mem _ (List.mem_append_left _ (List.mem_of_getElem? (i := 1) rfl)), List.forall_mem_cons.mpr ⟨List.mem_cons_of_mem _ (List.mem_append_left _ (List.mem_of_getElem? (i := 2) rfl)), List.forall_mem_cons.mpr ⟨List.mem_cons_of_mem _ (List.mem_append_left _ (List.mem_of_getElem? (i := 3) rfl)), List.forall_mem_cons.mpr ⟨List.mem_cons_of_mem _ (List.mem_append_left _ (List.mem_of_getElem? (i := 4) rfl)), fun _ h => absurd h List.not_mem_nil⟩⟩⟩⟩) (by decide +kernel)) gw_X8_base_X4_readTape
theorem gw_X8_base_X8_become : GoodIn W_X8_base W_X8_become := fun w h => ⟨List.mem_cons_of_mem _ (List.mem_append_right _ (List.mem_append_right _ (List.mem_append_right _ (List.mem_append_right _ (List.mem_append_right _ (h)))))), (wI_X8_become w h).2⟩
theorem gc_X8_base_87_X8_become : GoodIn W_X8_base (wsV RX8 87 RX8 yX8_become W_X8_become) := goodIn_app (goodIn_sub (List.forall_mem_cons.mpr ⟨List.mem_cons_of_mem _ (List.mem_append_left _ (List.mem_of_getElem? (i := 8) rfl)), List.forall_mem_cons.mpr ⟨List.mem_cons_of_mem _ (List.mem_append_left _ (List.mem_of_getElem? (i := 9) rfl)), List.forall_mem_cons.mpr ⟨List.mem_cons_of_mem _ (List.mem_append_left _ (List.mem_of_getElem? (i := 10) rfl)), List.forall_mem_cons.mpr ⟨List.mem_cons_of_mem _ (List.mem_append_left _ (List.mem_of_getElem? (i := 11) rfl)), fun _ h => absurd h List.not_mem_nil⟩⟩⟩⟩) (by decide +kernel)) gw_X8_base_X8_become
theorem gw_X8_become_X2_asTold : GoodIn W_X8_become W_X2_asTold := fun w h => ⟨List.mem_cons_of_mem _ (List.mem_append_right _ (List.mem_append_right _ (List.mem_append_right _ (List.mem_append_right _ (h))))), (wI_X2_asTold w h).2⟩
theorem gc_X8_become_310_X2_asTold : GoodIn W_X8_become (wsV RX8 310 RX2 yX2_asTold W_X2_asTold) := goodIn_app (goodIn_sub (List.forall_mem_cons.mpr ⟨List.mem_cons_of_mem _ (List.mem_append_left _ (List.mem_of_getElem? (i := 11) rfl)), List.forall_mem_cons.mpr ⟨List.mem_cons_of_mem _ (List.mem_append_left _ (List.mem_of_getElem? (i := 12) rfl)), List.forall_mem_cons.mpr ⟨List.mem_cons_of_mem _ (List.mem_append_left _ (List.mem_of_getElem? (i := 13) rfl)), List.forall_mem_cons.mpr ⟨List.mem_cons_of_mem _ (List.mem_append_left _ (List.mem_of_getElem? (i := 14) rfl)), fun _ h => absurd h List.not_mem_nil⟩⟩⟩⟩) (by decide +kernel)) gw_X8_become_X2_asTold
theorem gw_X8_become_X0_copyOf : GoodIn W_X8_become W_X0_copyOf := fun w h => ⟨List.mem_cons_of_mem _ (List.mem_append_right _ (List.mem_append_right _ (List.mem_append_left _ (h)))), (wI_X0_copyOf w h).2⟩
theorem gc_X8_become_323_X0_copyOf : GoodIn W_X8_become (wsV RX8 323 RX0 yX0_copyOf W_X0_copyOf) := goodIn_app (goodIn_sub (List.forall_mem_cons.mpr ⟨List.mem_cons_of_mem _ (List.mem_append_left _ (List.mem_of_getElem? (i := 1) rfl)), List.forall_mem_cons.mpr ⟨List.mem_cons_of_mem _ (List.mem_append_left _ (List.mem_of_getElem? (i := 2) rfl)), List.forall_mem_cons.mpr ⟨List.mem_cons_of_mem _ (List.mem_append_left _ (List.mem_of_getElem? (i := 3) rfl)), List.forall_mem_cons.mpr ⟨List.mem_cons_of_mem _ (List.mem_append_left _ (List.mem_of_getElem? (i := 4) rfl)), fun _ h => absurd h List.not_mem_nil⟩⟩⟩⟩) (by decide +kernel)) gw_X8_become_X0_copyOf
theorem gw_X8_become_X6_load : GoodIn W_X8_become W_X6_load := fun w h => ⟨List.mem_cons_of_mem _ (List.mem_append_right _ (List.mem_append_right _ (List.mem_append_right _ (List.mem_append_left _ (h))))), (wI_X6_load w h).2⟩
theorem gc_X8_become_357_X6_load : GoodIn W_X8_become (wsV RX8 357 RX6 yX6_load W_X6_load) := goodIn_app (goodIn_sub (List.forall_mem_cons.mpr ⟨List.mem_cons_of_mem _ (List.mem_append_left _ (List.mem_of_getElem? (i := 6) rfl)), List.forall_mem_cons.mpr ⟨List.mem_cons_of_mem _ (List.mem_append_left _ (List.mem_of_getElem? (i := 7) rfl)), List.forall_mem_cons.mpr ⟨List.mem_cons_of_mem _ (List.mem_append_left _ (List.mem_of_getElem? (i := 8) rfl)), List.forall_mem_cons.mpr ⟨List.mem_cons_of_mem _ (List.mem_append_left _ (List.mem_of_getElem? (i := 9) rfl)), fun _ h => absurd h List.not_mem_nil⟩⟩⟩⟩) (by decide +kernel)) gw_X8_become_X6_load
theorem gw_X8_count_X8_slotsInUse : GoodIn W_X8_count W_X8_slotsInUse := fun w h => ⟨List.mem_cons_of_mem _ (List.mem_append_right _ (List.mem_append_right _ (List.mem_append_right _ (List.mem_append_right _ (h))))), (wI_X8_slotsInUse w h).2⟩
theorem gc_X8_count_319_X8_slotsInUse : GoodIn W_X8_count (wsV RX8 319 RX8 yX8_slotsInUse W_X8_slotsInUse) := goodIn_app (goodIn_sub (List.forall_mem_cons.mpr ⟨List.mem_cons_of_mem _ (List.mem_append_left _ (List.mem_of_getElem? (i := 11) rfl)), List.forall_mem_cons.mpr ⟨List.mem_cons_of_mem _ (List.mem_append_left _ (List.mem_of_getElem? (i := 12) rfl)), List.forall_mem_cons.mpr ⟨List.mem_cons_of_mem _ (List.mem_append_left _ (List.mem_of_getElem? (i := 13) rfl)), List.forall_mem_cons.mpr ⟨List.mem_cons_of_mem _ (List.mem_append_left _ (List.mem_of_getElem? (i := 14) rfl)), fun _ h => absurd h List.not_mem_nil⟩⟩⟩⟩) (by decide +kernel)) gw_X8_count_X8_slotsInUse
theorem gw_X8_image_X0_copyOf : GoodIn W_X8_image W_X0_copyOf := fun w h => ⟨List.mem_cons_of_mem _ (List.mem_append_right _ (List.mem_append_right _ (h))), (wI_X0_copyOf w h).2⟩
theorem gc_X8_image_323_X0_copyOf : GoodIn W_X8_image (wsV RX8 323 RX0 yX0_copyOf W_X0_copyOf) := goodIn_app (goodIn_sub (List.forall_mem_cons.mpr ⟨List.mem_cons_of_mem _ (List.mem_append_left _ (List.mem_of_getElem? (i := 2) rfl)), List.forall_mem_cons.mpr ⟨List.mem_cons_of_mem _ (List.mem_append_left _ (List.mem_of_getElem? (i := 3) rfl)), List.forall_mem_cons.mpr ⟨List.mem_cons_of_mem _ (List.mem_append_left _ (List.mem_of_getElem? (i := 4) rfl)), List.forall_mem_cons.mpr ⟨List.mem_cons_of_mem _ (List.mem_append_left _ (List.mem_of_getElem? (i := 5) rfl)), fun _ h => absurd h List.not_mem_nil⟩⟩⟩⟩) (by decide +kernel)) gw_X8_image_X0_copyOf
theorem gw_X8_paste_X8_noSlot : GoodIn W_X8_paste W_X8_noSlot := fun w h => ⟨List.mem_cons_of_mem _ (List.mem_append_right _ (List.mem_append_right _ (List.mem_append_right _ (List.mem_append_left _ (h))))), (wI_X8_noSlot w h).2⟩
theorem gc_X8_paste_326_X8_noSlot : GoodIn W_X8_paste (wsV RX8 326 RX8 yX8_noSlot W_X8_noSlot) := goodIn_app (goodIn_sub (List.forall_mem_cons.mpr ⟨List.mem_cons_of_mem _ (List.mem_append_left _ (List.mem_of_getElem? (i := 0) rfl)), List.forall_mem_cons.mpr ⟨List.mem_cons_of_mem _ (List.mem_append_left _ (List.mem_of_getElem? (i := 1) rfl)), List.forall_mem_cons.mpr ⟨List.mem_cons_of_mem _ (List.mem_append_left _ (List.mem_of_getElem? (i := 2) rfl)), List.forall_mem_cons.mpr ⟨List.mem_cons_of_mem _ (List.mem_append_left _ (List.mem_of_getElem? (i := 3) rfl)), fun _ h => absurd h List.not_mem_nil⟩⟩⟩⟩) (by decide +kernel)) gw_X8_paste_X8_noSlot
theorem gw_X8_paste_X5_spans : GoodIn W_X8_paste W_X5_spans := fun w h => ⟨List.mem_cons_of_mem _ (List.mem_append_right _ (List.mem_append_right _ (List.mem_append_right _ (List.mem_append_right _ (h))))), (wI_X5_spans w h).2⟩
theorem gc_X8_paste_348_X5_spans : GoodIn W_X8_paste (wsV RX8 348 RX5 yX5_spans W_X5_spans) := goodIn_app (goodIn_sub (List.forall_mem_cons.mpr ⟨List.mem_cons_of_mem _ (List.mem_append_left _ (List.mem_of_getElem? (i := 7) rfl)), List.forall_mem_cons.mpr ⟨List.mem_cons_of_mem _ (List.mem_append_left _ (List.mem_of_getElem? (i := 8) rfl)), List.forall_mem_cons.mpr ⟨List.mem_cons_of_mem _ (List.mem_append_left _ (List.mem_of_getElem? (i := 9) rfl)), List.forall_mem_cons.mpr ⟨List.mem_cons_of_mem _ (List.mem_append_left _ (List.mem_of_getElem? (i := 10) rfl)), fun _ h => absurd h List.not_mem_nil⟩⟩⟩⟩) (by decide +kernel)) gw_X8_paste_X5_spans
theorem gw_X8_row_X8_noSlot : GoodIn W_X8_row W_X8_noSlot := fun w h => ⟨List.mem_cons_of_mem _ (List.mem_append_right _ (List.mem_append_right _ (List.mem_append_left _ (h)))), (wI_X8_noSlot w h).2⟩
theorem gc_X8_row_326_X8_noSlot : GoodIn W_X8_row (wsV RX8 326 RX8 yX8_noSlot W_X8_noSlot) := goodIn_app (goodIn_sub (List.forall_mem_cons.mpr ⟨List.mem_cons_of_mem _ (List.mem_append_left _ (List.mem_of_getElem? (i := 0) rfl)), List.forall_mem_cons.mpr ⟨List.mem_cons_of_mem _ (List.mem_append_left _ (List.mem_of_getElem? (i := 1) rfl)), List.forall_mem_cons.mpr ⟨List.mem_cons_of_mem _ (List.mem_append_left _ (List.mem_of_getElem? (i := 2) rfl)), List.forall_mem_cons.mpr ⟨List.mem_cons_of_mem _ (List.mem_append_left _ (List.mem_of_getElem? (i := 3) rfl)), fun _ h => absurd h List.not_mem_nil⟩⟩⟩⟩) (by decide +kernel)) gw_X8_row_X8_noSlot
theorem gw_X8_row_X5_renew : GoodIn W_X8_row W_X5_renew := fun w h => ⟨List.mem_cons_of_mem _ (List.mem_append_right _ (List.mem_append_right _ (List.mem_append_right _ (h)))), (wI_X5_renew w h).2⟩
theorem gc_X8_row_329_X5_renew : GoodIn W_X8_row (wsV RX8 329 RX5 yX5_renew W_X5_renew) := goodIn_app (goodIn_sub (List.forall_mem_cons.mpr ⟨List.mem_cons_of_mem _ (List.mem_append_left _ (List.mem_of_getElem? (i := 5) rfl)), List.forall_mem_cons.mpr ⟨List.mem_cons_of_mem _ (List.mem_append_left _ (List.mem_of_getElem? (i := 6) rfl)), List.forall_mem_cons.mpr ⟨List.mem_cons_of_mem _ (List.mem_append_left _ (List.mem_of_getElem? (i := 7) rfl)), List.forall_mem_cons.mpr ⟨List.mem_cons_of_mem _ (List.mem_append_left _ (List.mem_of_getElem? (i := 8) rfl)), fun _ h => absurd h List.not_mem_nil⟩⟩⟩⟩) (by decide +kernel)) gw_X8_row_X5_renew
theorem gw_X8_write_X8_noSlot : GoodIn W_X8_write W_X8_noSlot := fun w h => ⟨List.mem_cons_of_mem _ (List.mem_append_right _ (List.mem_append_right _ (List.mem_append_right _ (List.mem_append_left _ (h))))), (wI_X8_noSlot w h).2⟩
theorem gc_X8_write_326_X8_noSlot : GoodIn W_X8_write (wsV RX8 326 RX8 yX8_noSlot W_X8_noSlot) := goodIn_app (goodIn_sub (List.forall_mem_cons.mpr ⟨List.mem_cons_of_mem _ (List.mem_append_left _ (List.mem_of_getElem? (i := 0) rfl)), List.forall_mem_cons.mpr ⟨List.mem_cons_of_mem _ (List.mem_append_left _ (List.mem_of_getElem? (i := 1) rfl)), List.forall_mem_cons.mpr ⟨List.mem_cons_of_mem _ (List.mem_append_left _ (List.mem_of_getElem? (i := 2) rfl)), List.forall_mem_cons.mpr ⟨List.mem_cons_of_mem _ (List.mem_append_left _ (List.mem_of_getElem? (i := 3) rfl)), fun _ h => absurd h List.not_mem_nil⟩⟩⟩⟩) (by decide +kernel)) gw_X8_write_X8_noSlot
theorem gw_X8_write_X5_cut : GoodIn W_X8_write W_X5_cut := fun w h => ⟨List.mem_cons_of_mem _ (List.mem_append_right _ (List.mem_append_right _ (List.mem_append_right _ (List.mem_append_right _ (h))))), (wI_X5_cut w h).2⟩
theorem gc_X8_write_341_X5_cut : GoodIn W_X8_write (wsV RX8 341 RX5 yX5_cut W_X5_cut) := goodIn_app (goodIn_sub (List.forall_mem_cons.mpr ⟨List.mem_cons_of_mem _ (List.mem_append_left _ (List.mem_of_getElem? (i := 8) rfl)), List.forall_mem_cons.mpr ⟨List.mem_cons_of_mem _ (List.mem_append_left _ (List.mem_of_getElem? (i := 9) rfl)), List.forall_mem_cons.mpr ⟨List.mem_cons_of_mem _ (List.mem_append_left _ (List.mem_of_getElem? (i := 10) rfl)), List.forall_mem_cons.mpr ⟨List.mem_cons_of_mem _ (List.mem_append_left _ (List.mem_of_getElem? (i := 11) rfl)), fun _ h => absurd h List.not_mem_nil⟩⟩⟩⟩) (by decide +kernel)) gw_X8_write_X5_cut
