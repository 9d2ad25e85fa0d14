theorem dX4_cellKind_0 : decode cX4_cellKind 0 = .ok (.aload_n 0, 1) := by decide +kernel
theorem dX4_cellKind_1 : decode cX4_cellKind 1 = .ok (.ldc 143, 2) := by decide +kernel
theorem dX4_cellKind_3 : decode cX4_cellKind 3 = .ok (.invokevirtual 61, 3) := by decide +kernel
theorem dX4_cellKind_6 : decode cX4_cellKind 6 = .ok (.ifCond .eq 7, 3) := by decide +kernel
theorem dX4_cellKind_9 : decode cX4_cellKind 9 = .ok (.iconst 0, 1) := by decide +kernel
theorem dX4_cellKind_10 : decode cX4_cellKind 10 = .ok (.goto 43, 3) := by decide +kernel
theorem dX4_cellKind_13 : decode cX4_cellKind 13 = .ok (.aload_n 0, 1) := by decide +kernel
theorem dX4_cellKind_14 : decode cX4_cellKind 14 = .ok (.ldc 145, 2) := by decide +kernel
theorem dX4_cellKind_16 : decode cX4_cellKind 16 = .ok (.invokevirtual 61, 3) := by decide +kernel
theorem dX4_cellKind_19 : decode cX4_cellKind 19 = .ok (.ifCond .eq 7, 3) := by decide +kernel
theorem dX4_cellKind_22 : decode cX4_cellKind 22 = .ok (.iconst 1, 1) := by decide +kernel
theorem dX4_cellKind_23 : decode cX4_cellKind 23 = .ok (.goto 30, 3) := by decide +kernel
theorem dX4_cellKind_26 : decode cX4_cellKind 26 = .ok (.aload_n 0, 1) := by decide +kernel
theorem dX4_cellKind_27 : decode cX4_cellKind 27 = .ok (.ldc 147, 2) := by decide +kernel
theorem dX4_cellKind_29 : decode cX4_cellKind 29 = .ok (.invokevirtual 61, 3) := by decide +kernel
theorem dX4_cellKind_32 : decode cX4_cellKind 32 = .ok (.ifCond .eq 7, 3) := by decide +kernel
theorem dX4_cellKind_35 : decode cX4_cellKind 35 = .ok (.iconst 2, 1) := by decide +kernel
theorem dX4_cellKind_36 : decode cX4_cellKind 36 = .ok (.goto 17, 3) := by decide +kernel
theorem dX4_cellKind_39 : decode cX4_cellKind 39 = .ok (.aload_n 0, 1) := by decide +kernel
theorem dX4_cellKind_40 : decode cX4_cellKind 40 = .ok (.ldc 149, 2) := by decide +kernel
theorem dX4_cellKind_42 : decode cX4_cellKind 42 = .ok (.invokevirtual 61, 3) := by decide +kernel
theorem dX4_cellKind_45 : decode cX4_cellKind 45 = .ok (.ifCond .eq 7, 3) := by decide +kernel
theorem dX4_cellKind_48 : decode cX4_cellKind 48 = .ok (.iconst 3, 1) := by decide +kernel
theorem dX4_cellKind_49 : decode cX4_cellKind 49 = .ok (.goto 4, 3) := by decide +kernel
theorem dX4_cellKind_52 : decode cX4_cellKind 52 = .ok (.iconst (-1), 1) := by decide +kernel
theorem dX4_cellKind_53 : decode cX4_cellKind 53 = .ok (.ireturn, 1) := by decide +kernel
theorem dX4_failed_0 : decode cX4_failed 0 = .ok (.aload_n 0, 1) := by decide +kernel
theorem dX4_failed_1 : decode cX4_failed 1 = .ok (.iload_n 1, 1) := by decide +kernel
theorem dX4_failed_2 : decode cX4_failed 2 = .ok (.putfield 27, 3) := by decide +kernel
theorem dX4_failed_5 : decode cX4_failed 5 = .ok (.aload_n 0, 1) := by decide +kernel
theorem dX4_failed_6 : decode cX4_failed 6 = .ok (.aload_n 0, 1) := by decide +kernel
theorem dX4_failed_7 : decode cX4_failed 7 = .ok (.getfield 15, 3) := by decide +kernel
theorem dX4_failed_10 : decode cX4_failed 10 = .ok (.putfield 30, 3) := by decide +kernel
theorem dX4_failed_13 : decode cX4_failed 13 = .ok (.iconst 0, 1) := by decide +kernel
theorem dX4_failed_14 : decode cX4_failed 14 = .ok (.ireturn, 1) := by decide +kernel
theorem dX4_highestOf_0 : decode cX4_highestOf 0 = .ok (.iload_n 1, 1) := by decide +kernel
theorem dX4_highestOf_1 : decode cX4_highestOf 1 = .ok (.bipush 65, 2) := by decide +kernel
theorem dX4_highestOf_3 : decode cX4_highestOf 3 = .ok (.if_icmp .eq 9, 3) := by decide +kernel
theorem dX4_highestOf_6 : decode cX4_highestOf 6 = .ok (.iload_n 1, 1) := by decide +kernel
theorem dX4_highestOf_7 : decode cX4_highestOf 7 = .ok (.bipush 66, 2) := by decide +kernel
theorem dX4_highestOf_9 : decode cX4_highestOf 9 = .ok (.if_icmp .ne 13, 3) := by decide +kernel
theorem dX4_highestOf_12 : decode cX4_highestOf 12 = .ok (.aload_n 0, 1) := by decide +kernel
theorem dX4_highestOf_13 : decode cX4_highestOf 13 = .ok (.getfield 37, 3) := by decide +kernel
theorem dX4_highestOf_16 : decode cX4_highestOf 16 = .ok (.getfield 103, 3) := by decide +kernel
theorem dX4_highestOf_19 : decode cX4_highestOf 19 = .ok (.iconst 1, 1) := by decide +kernel
theorem dX4_highestOf_20 : decode cX4_highestOf 20 = .ok (.isub, 1) := by decide +kernel
theorem dX4_highestOf_21 : decode cX4_highestOf 21 = .ok (.ireturn, 1) := by decide +kernel
theorem dX4_highestOf_22 : decode cX4_highestOf 22 = .ok (.iload_n 1, 1) := by decide +kernel
theorem dX4_highestOf_23 : decode cX4_highestOf 23 = .ok (.bipush 83, 2) := by decide +kernel
theorem dX4_highestOf_25 : decode cX4_highestOf 25 = .ok (.if_icmp .ne 8, 3) := by decide +kernel
theorem dX4_highestOf_28 : decode cX4_highestOf 28 = .ok (.bipush 6, 2) := by decide +kernel
theorem dX4_highestOf_30 : decode cX4_highestOf 30 = .ok (.goto 10, 3) := by decide +kernel
theorem dX4_highestOf_33 : decode cX4_highestOf 33 = .ok (.aload_n 0, 1) := by decide +kernel
theorem dX4_highestOf_34 : decode cX4_highestOf 34 = .ok (.getfield 37, 3) := by decide +kernel
theorem dX4_highestOf_37 : decode cX4_highestOf 37 = .ok (.getfield 93, 3) := by decide +kernel
theorem dX4_highestOf_40 : decode cX4_highestOf 40 = .ok (.ireturn, 1) := by decide +kernel
theorem dX4_isDigitNext_0 : decode cX4_isDigitNext 0 = .ok (.aload_n 0, 1) := by decide +kernel
theorem dX4_isDigitNext_1 : decode cX4_isDigitNext 1 = .ok (.getfield 33, 3) := by decide +kernel
theorem dX4_isDigitNext_4 : decode cX4_isDigitNext 4 = .ok (.getfield 201, 3) := by decide +kernel
theorem dX4_isDigitNext_7 : decode cX4_isDigitNext 7 = .ok (.aload_n 0, 1) := by decide +kernel
theorem dX4_isDigitNext_8 : decode cX4_isDigitNext 8 = .ok (.getfield 18, 3) := by decide +kernel
theorem dX4_isDigitNext_11 : decode cX4_isDigitNext 11 = .ok (.baload, 1) := by decide +kernel
theorem dX4_isDigitNext_12 : decode cX4_isDigitNext 12 = .ok (.bipush 48, 2) := by decide +kernel
theorem dX4_isDigitNext_14 : decode cX4_isDigitNext 14 = .ok (.if_icmp .lt 24, 3) := by decide +kernel
theorem dX4_isDigitNext_17 : decode cX4_isDigitNext 17 = .ok (.aload_n 0, 1) := by decide +kernel
theorem dX4_isDigitNext_18 : decode cX4_isDigitNext 18 = .ok (.getfield 33, 3) := by decide +kernel
theorem dX4_isDigitNext_21 : decode cX4_isDigitNext 21 = .ok (.getfield 201, 3) := by decide +kernel
theorem dX4_isDigitNext_24 : decode cX4_isDigitNext 24 = .ok (.aload_n 0, 1) := by decide +kernel
theorem dX4_isDigitNext_25 : decode cX4_isDigitNext 25 = .ok (.getfield 18, 3) := by decide +kernel
theorem dX4_isDigitNext_28 : decode cX4_isDigitNext 28 = .ok (.baload, 1) := by decide +kernel
theorem dX4_isDigitNext_29 : decode cX4_isDigitNext 29 = .ok (.bipush 57, 2) := by decide +kernel
theorem dX4_isDigitNext_31 : decode cX4_isDigitNext 31 = .ok (.if_icmp .gt 7, 3) := by decide +kernel
theorem dX4_isDigitNext_34 : decode cX4_isDigitNext 34 = .ok (.iconst 1, 1) := by decide +kernel
theorem dX4_isDigitNext_35 : decode cX4_isDigitNext 35 = .ok (.goto 4, 3) := by decide +kernel
theorem dX4_isDigitNext_38 : decode cX4_isDigitNext 38 = .ok (.iconst 0, 1) := by decide +kernel
theorem dX4_isDigitNext_39 : decode cX4_isDigitNext 39 = .ok (.ireturn, 1) := by decide +kernel
theorem dX4_isLetterNext_0 : decode cX4_isLetterNext 0 = .ok (.aload_n 0, 1) := by decide +kernel
theorem dX4_isLetterNext_1 : decode cX4_isLetterNext 1 = .ok (.getfield 33, 3) := by decide +kernel
theorem dX4_isLetterNext_4 : decode cX4_isLetterNext 4 = .ok (.getfield 201, 3) := by decide +kernel
theorem dX4_isLetterNext_7 : decode cX4_isLetterNext 7 = .ok (.aload_n 0, 1) := by decide +kernel
theorem dX4_isLetterNext_8 : decode cX4_isLetterNext 8 = .ok (.getfield 18, 3) := by decide +kernel
theorem dX4_isLetterNext_11 : decode cX4_isLetterNext 11 = .ok (.baload, 1) := by decide +kernel
theorem dX4_isLetterNext_12 : decode cX4_isLetterNext 12 = .ok (.bipush 97, 2) := by decide +kernel
theorem dX4_isLetterNext_14 : decode cX4_isLetterNext 14 = .ok (.if_icmp .lt 24, 3) := by decide +kernel
theorem dX4_isLetterNext_17 : decode cX4_isLetterNext 17 = .ok (.aload_n 0, 1) := by decide +kernel
theorem dX4_isLetterNext_18 : decode cX4_isLetterNext 18 = .ok (.getfield 33, 3) := by decide +kernel
theorem dX4_isLetterNext_21 : decode cX4_isLetterNext 21 = .ok (.getfield 201, 3) := by decide +kernel
theorem dX4_isLetterNext_24 : decode cX4_isLetterNext 24 = .ok (.aload_n 0, 1) := by decide +kernel
theorem dX4_isLetterNext_25 : decode cX4_isLetterNext 25 = .ok (.getfield 18, 3) := by decide +kernel
theorem dX4_isLetterNext_28 : decode cX4_isLetterNext 28 = .ok (.baload, 1) := by decide +kernel
theorem dX4_isLetterNext_29 : decode cX4_isLetterNext 29 = .ok (.bipush 122, 2) := by decide +kernel
theorem dX4_isLetterNext_31 : decode cX4_isLetterNext 31 = .ok (.if_icmp .gt 7, 3) := by decide +kernel
theorem dX4_isLetterNext_34 : decode cX4_isLetterNext 34 = .ok (.iconst 1, 1) := by decide +kernel
theorem dX4_isLetterNext_35 : decode cX4_isLetterNext 35 = .ok (.goto 4, 3) := by decide +kernel
theorem dX4_isLetterNext_38 : decode cX4_isLetterNext 38 = .ok (.iconst 0, 1) := by decide +kernel
theorem dX4_isLetterNext_39 : decode cX4_isLetterNext 39 = .ok (.ireturn, 1) := by decide +kernel
theorem dX4_isWord_0 : decode cX4_isWord 0 = .ok (.aload_n 0, 1) := by decide +kernel
theorem dX4_isWord_1 : decode cX4_isWord 1 = .ok (.getfield 11, 3) := by decide +kernel
theorem dX4_isWord_4 : decode cX4_isWord 4 = .ok (.iconst 1, 1) := by decide +kernel
theorem dX4_isWord_5 : decode cX4_isWord 5 = .ok (.if_icmp .ne 33, 3) := by decide +kernel
theorem dX4_isWord_8 : decode cX4_isWord 8 = .ok (.aload_n 0, 1) := by decide +kernel
theorem dX4_isWord_9 : decode cX4_isWord 9 = .ok (.getfield 18, 3) := by decide +kernel
theorem dX4_isWord_12 : decode cX4_isWord 12 = .ok (.aload_n 0, 1) := by decide +kernel
theorem dX4_isWord_13 : decode cX4_isWord 13 = .ok (.getfield 15, 3) := by decide +kernel
theorem dX4_isWord_16 : decode cX4_isWord 16 = .ok (.isub, 1) := by decide +kernel
theorem dX4_isWord_17 : decode cX4_isWord 17 = .ok (.aload_n 1, 1) := by decide +kernel
theorem dX4_isWord_18 : decode cX4_isWord 18 = .ok (.invokevirtual 183, 3) := by decide +kernel
theorem dX4_isWord_21 : decode cX4_isWord 21 = .ok (.if_icmp .ne 17, 3) := by decide +kernel
theorem dX4_isWord_24 : decode cX4_isWord 24 = .ok (.aload_n 0, 1) := by decide +kernel
theorem dX4_isWord_25 : decode cX4_isWord 25 = .ok (.getfield 18, 3) := by decide +kernel
theorem dX4_isWord_28 : decode cX4_isWord 28 = .ok (.aload_n 0, 1) := by decide +kernel
theorem dX4_isWord_29 : decode cX4_isWord 29 = .ok (.getfield 33, 3) := by decide +kernel
theorem dX4_isWord_32 : decode cX4_isWord 32 = .ok (.getfield 196, 3) := by decide +kernel
theorem dX4_isWord_35 : decode cX4_isWord 35 = .ok (.if_icmp .le 5, 3) := by decide +kernel
theorem dX4_isWord_38 : decode cX4_isWord 38 = .ok (.iconst 0, 1) := by decide +kernel
theorem dX4_isWord_39 : decode cX4_isWord 39 = .ok (.ireturn, 1) := by decide +kernel
theorem dX4_isWord_40 : decode cX4_isWord 40 = .ok (.iconst 0, 1) := by decide +kernel
theorem dX4_isWord_41 : decode cX4_isWord 41 = .ok (.istore_n 2, 1) := by decide +kernel
theorem dX4_isWord_42 : decode cX4_isWord 42 = .ok (.iload_n 2, 1) := by decide +kernel
theorem dX4_isWord_43 : decode cX4_isWord 43 = .ok (.aload_n 1, 1) := by decide +kernel
theorem dX4_isWord_44 : decode cX4_isWord 44 = .ok (.invokevirtual 183, 3) := by decide +kernel
theorem dX4_isWord_47 : decode cX4_isWord 47 = .ok (.if_icmp .ge 33, 3) := by decide +kernel
theorem dX4_isWord_50 : decode cX4_isWord 50 = .ok (.aload_n 0, 1) := by decide +kernel
theorem dX4_isWord_51 : decode cX4_isWord 51 = .ok (.getfield 33, 3) := by decide +kernel
theorem dX4_isWord_54 : decode cX4_isWord 54 = .ok (.getfield 201, 3) := by decide +kernel
theorem dX4_isWord_57 : decode cX4_isWord 57 = .ok (.aload_n 0, 1) := by decide +kernel
theorem dX4_isWord_58 : decode cX4_isWord 58 = .ok (.getfield 15, 3) := by decide +kernel
theorem dX4_isWord_61 : decode cX4_isWord 61 = .ok (.iload_n 2, 1) := by decide +kernel
theorem dX4_isWord_62 : decode cX4_isWord 62 = .ok (.iadd, 1) := by decide +kernel
theorem dX4_isWord_63 : decode cX4_isWord 63 = .ok (.baload, 1) := by decide +kernel
theorem dX4_isWord_64 : decode cX4_isWord 64 = .ok (.aload_n 1, 1) := by decide +kernel
theorem dX4_isWord_65 : decode cX4_isWord 65 = .ok (.iload_n 2, 1) := by decide +kernel
theorem dX4_isWord_66 : decode cX4_isWord 66 = .ok (.invokevirtual 188, 3) := by decide +kernel
theorem dX4_isWord_69 : decode cX4_isWord 69 = .ok (.if_icmp .eq 5, 3) := by decide +kernel
theorem dX4_isWord_72 : decode cX4_isWord 72 = .ok (.iconst 0, 1) := by decide +kernel
theorem dX4_isWord_73 : decode cX4_isWord 73 = .ok (.ireturn, 1) := by decide +kernel
theorem dX4_isWord_74 : decode cX4_isWord 74 = .ok (.iinc 2 1, 3) := by decide +kernel
theorem dX4_isWord_77 : decode cX4_isWord 77 = .ok (.goto (-35), 3) := by decide +kernel
theorem dX4_isWord_80 : decode cX4_isWord 80 = .ok (.iconst 1, 1) := by decide +kernel
theorem dX4_isWord_81 : decode cX4_isWord 81 = .ok (.ireturn, 1) := by decide +kernel
theorem dX4_next_0 : decode cX4_next 0 = .ok (.aload_n 0, 1) := by decide +kernel
theorem dX4_next_1 : decode cX4_next 1 = .ok (.getfield 18, 3) := by decide +kernel
theorem dX4_next_4 : decode cX4_next 4 = .ok (.aload_n 0, 1) := by decide +kernel
theorem dX4_next_5 : decode cX4_next 5 = .ok (.getfield 33, 3) := by decide +kernel
theorem dX4_next_8 : decode cX4_next 8 = .ok (.getfield 196, 3) := by decide +kernel
theorem dX4_next_11 : decode cX4_next 11 = .ok (.if_icmp .ge 50, 3) := by decide +kernel
theorem dX4_next_14 : decode cX4_next 14 = .ok (.aload_n 0, 1) := by decide +kernel
theorem dX4_next_15 : decode cX4_next 15 = .ok (.getfield 33, 3) := by decide +kernel
theorem dX4_next_18 : decode cX4_next 18 = .ok (.getfield 201, 3) := by decide +kernel
theorem dX4_next_21 : decode cX4_next 21 = .ok (.aload_n 0, 1) := by decide +kernel
theorem dX4_next_22 : decode cX4_next 22 = .ok (.getfield 18, 3) := by decide +kernel
theorem dX4_next_25 : decode cX4_next 25 = .ok (.baload, 1) := by decide +kernel
theorem dX4_next_26 : decode cX4_next 26 = .ok (.bipush 32, 2) := by decide +kernel
theorem dX4_next_28 : decode cX4_next 28 = .ok (.if_icmp .eq 20, 3) := by decide +kernel
theorem dX4_next_31 : decode cX4_next 31 = .ok (.aload_n 0, 1) := by decide +kernel
theorem dX4_next_32 : decode cX4_next 32 = .ok (.getfield 33, 3) := by decide +kernel
theorem dX4_next_35 : decode cX4_next 35 = .ok (.getfield 201, 3) := by decide +kernel
theorem dX4_next_38 : decode cX4_next 38 = .ok (.aload_n 0, 1) := by decide +kernel
theorem dX4_next_39 : decode cX4_next 39 = .ok (.getfield 18, 3) := by decide +kernel
theorem dX4_next_42 : decode cX4_next 42 = .ok (.baload, 1) := by decide +kernel
theorem dX4_next_43 : decode cX4_next 43 = .ok (.bipush 10, 2) := by decide +kernel
theorem dX4_next_45 : decode cX4_next 45 = .ok (.if_icmp .ne 16, 3) := by decide +kernel
theorem dX4_next_48 : decode cX4_next 48 = .ok (.aload_n 0, 1) := by decide +kernel
theorem dX4_next_49 : decode cX4_next 49 = .ok (.dup, 1) := by decide +kernel
theorem dX4_next_50 : decode cX4_next 50 = .ok (.getfield 18, 3) := by decide +kernel
theorem dX4_next_53 : decode cX4_next 53 = .ok (.iconst 1, 1) := by decide +kernel
theorem dX4_next_54 : decode cX4_next 54 = .ok (.iadd, 1) := by decide +kernel
theorem dX4_next_55 : decode cX4_next 55 = .ok (.putfield 18, 3) := by decide +kernel
theorem dX4_next_58 : decode cX4_next 58 = .ok (.goto (-58), 3) := by decide +kernel
theorem dX4_next_61 : decode cX4_next 61 = .ok (.aload_n 0, 1) := by decide +kernel
theorem dX4_next_62 : decode cX4_next 62 = .ok (.aload_n 0, 1) := by decide +kernel
theorem dX4_next_63 : decode cX4_next 63 = .ok (.getfield 18, 3) := by decide +kernel
theorem dX4_next_66 : decode cX4_next 66 = .ok (.putfield 15, 3) := by decide +kernel
theorem dX4_next_69 : decode cX4_next 69 = .ok (.aload_n 0, 1) := by decide +kernel
theorem dX4_next_70 : decode cX4_next 70 = .ok (.iconst 0, 1) := by decide +kernel
theorem dX4_next_71 : decode cX4_next 71 = .ok (.putfield 21, 3) := by decide +kernel
theorem dX4_next_74 : decode cX4_next 74 = .ok (.aload_n 0, 1) := by decide +kernel
theorem dX4_next_75 : decode cX4_next 75 = .ok (.getfield 18, 3) := by decide +kernel
theorem dX4_next_78 : decode cX4_next 78 = .ok (.aload_n 0, 1) := by decide +kernel
theorem dX4_next_79 : decode cX4_next 79 = .ok (.getfield 33, 3) := by decide +kernel
theorem dX4_next_82 : decode cX4_next 82 = .ok (.getfield 196, 3) := by decide +kernel
theorem dX4_next_85 : decode cX4_next 85 = .ok (.if_icmp .lt 9, 3) := by decide +kernel
theorem dX4_next_88 : decode cX4_next 88 = .ok (.aload_n 0, 1) := by decide +kernel
theorem dX4_next_89 : decode cX4_next 89 = .ok (.iconst 0, 1) := by decide +kernel
theorem dX4_next_90 : decode cX4_next 90 = .ok (.putfield 11, 3) := by decide +kernel
theorem dX4_next_93 : decode cX4_next 93 = .ok (.return_, 1) := by decide +kernel
theorem dX4_next_94 : decode cX4_next 94 = .ok (.aload_n 0, 1) := by decide +kernel
theorem dX4_next_95 : decode cX4_next 95 = .ok (.invokevirtual 205, 3) := by decide +kernel
theorem dX4_next_98 : decode cX4_next 98 = .ok (.ifCond .eq 42, 3) := by decide +kernel
theorem dX4_next_101 : decode cX4_next 101 = .ok (.aload_n 0, 1) := by decide +kernel
theorem dX4_next_102 : decode cX4_next 102 = .ok (.iconst 1, 1) := by decide +kernel
theorem dX4_next_103 : decode cX4_next 103 = .ok (.putfield 11, 3) := by decide +kernel
theorem dX4_next_106 : decode cX4_next 106 = .ok (.aload_n 0, 1) := by decide +kernel
theorem dX4_next_107 : decode cX4_next 107 = .ok (.getfield 18, 3) := by decide +kernel
theorem dX4_next_110 : decode cX4_next 110 = .ok (.aload_n 0, 1) := by decide +kernel
theorem dX4_next_111 : decode cX4_next 111 = .ok (.getfield 33, 3) := by decide +kernel
theorem dX4_next_114 : decode cX4_next 114 = .ok (.getfield 196, 3) := by decide +kernel
theorem dX4_next_117 : decode cX4_next 117 = .ok (.if_icmp .ge 138, 3) := by decide +kernel
theorem dX4_next_120 : decode cX4_next 120 = .ok (.aload_n 0, 1) := by decide +kernel
theorem dX4_next_121 : decode cX4_next 121 = .ok (.invokevirtual 205, 3) := by decide +kernel
theorem dX4_next_124 : decode cX4_next 124 = .ok (.ifCond .eq 131, 3) := by decide +kernel
theorem dX4_next_127 : decode cX4_next 127 = .ok (.aload_n 0, 1) := by decide +kernel
theorem dX4_next_128 : decode cX4_next 128 = .ok (.dup, 1) := by decide +kernel
theorem dX4_next_129 : decode cX4_next 129 = .ok (.getfield 18, 3) := by decide +kernel
theorem dX4_next_132 : decode cX4_next 132 = .ok (.iconst 1, 1) := by decide +kernel
theorem dX4_next_133 : decode cX4_next 133 = .ok (.iadd, 1) := by decide +kernel
theorem dX4_next_134 : decode cX4_next 134 = .ok (.putfield 18, 3) := by decide +kernel
theorem dX4_next_137 : decode cX4_next 137 = .ok (.goto (-31), 3) := by decide +kernel
theorem dX4_next_140 : decode cX4_next 140 = .ok (.aload_n 0, 1) := by decide +kernel
theorem dX4_next_141 : decode cX4_next 141 = .ok (.invokevirtual 208, 3) := by decide +kernel
theorem dX4_next_144 : decode cX4_next 144 = .ok (.ifCond .eq 75, 3) := by decide +kernel
theorem dX4_next_147 : decode cX4_next 147 = .ok (.aload_n 0, 1) := by decide +kernel
theorem dX4_next_148 : decode cX4_next 148 = .ok (.iconst 2, 1) := by decide +kernel
theorem dX4_next_149 : decode cX4_next 149 = .ok (.putfield 11, 3) := by decide +kernel
theorem dX4_next_152 : decode cX4_next 152 = .ok (.aload_n 0, 1) := by decide +kernel
theorem dX4_next_153 : decode cX4_next 153 = .ok (.getfield 18, 3) := by decide +kernel
theorem dX4_next_156 : decode cX4_next 156 = .ok (.aload_n 0, 1) := by decide +kernel
theorem dX4_next_157 : decode cX4_next 157 = .ok (.getfield 33, 3) := by decide +kernel
theorem dX4_next_160 : decode cX4_next 160 = .ok (.getfield 196, 3) := by decide +kernel
theorem dX4_next_163 : decode cX4_next 163 = .ok (.if_icmp .ge 92, 3) := by decide +kernel
theorem dX4_next_166 : decode cX4_next 166 = .ok (.aload_n 0, 1) := by decide +kernel
theorem dX4_next_167 : decode cX4_next 167 = .ok (.invokevirtual 208, 3) := by decide +kernel
theorem dX4_next_170 : decode cX4_next 170 = .ok (.ifCond .eq 85, 3) := by decide +kernel
theorem dX4_next_173 : decode cX4_next 173 = .ok (.aload_n 0, 1) := by decide +kernel
theorem dX4_next_174 : decode cX4_next 174 = .ok (.sipush 1000, 3) := by decide +kernel
theorem dX4_next_177 : decode cX4_next 177 = .ok (.aload_n 0, 1) := by decide +kernel
theorem dX4_next_178 : decode cX4_next 178 = .ok (.getfield 21, 3) := by decide +kernel
theorem dX4_next_181 : decode cX4_next 181 = .ok (.bipush 10, 2) := by decide +kernel
theorem dX4_next_183 : decode cX4_next 183 = .ok (.imul, 1) := by decide +kernel
theorem dX4_next_184 : decode cX4_next 184 = .ok (.aload_n 0, 1) := by decide +kernel
theorem dX4_next_185 : decode cX4_next 185 = .ok (.getfield 33, 3) := by decide +kernel
theorem dX4_next_188 : decode cX4_next 188 = .ok (.getfield 201, 3) := by decide +kernel
theorem dX4_next_191 : decode cX4_next 191 = .ok (.aload_n 0, 1) := by decide +kernel
theorem dX4_next_192 : decode cX4_next 192 = .ok (.getfield 18, 3) := by decide +kernel
theorem dX4_next_195 : decode cX4_next 195 = .ok (.baload, 1) := by decide +kernel
theorem dX4_next_196 : decode cX4_next 196 = .ok (.iadd, 1) := by decide +kernel
theorem dX4_next_197 : decode cX4_next 197 = .ok (.bipush 48, 2) := by decide +kernel
theorem dX4_next_199 : decode cX4_next 199 = .ok (.isub, 1) := by decide +kernel
theorem dX4_next_200 : decode cX4_next 200 = .ok (.invokestatic 211, 3) := by decide +kernel
theorem dX4_next_203 : decode cX4_next 203 = .ok (.putfield 21, 3) := by decide +kernel
theorem dX4_next_206 : decode cX4_next 206 = .ok (.aload_n 0, 1) := by decide +kernel
theorem dX4_next_207 : decode cX4_next 207 = .ok (.dup, 1) := by decide +kernel
theorem dX4_next_208 : decode cX4_next 208 = .ok (.getfield 18, 3) := by decide +kernel
theorem dX4_next_211 : decode cX4_next 211 = .ok (.iconst 1, 1) := by decide +kernel
theorem dX4_next_212 : decode cX4_next 212 = .ok (.iadd, 1) := by decide +kernel
theorem dX4_next_213 : decode cX4_next 213 = .ok (.putfield 18, 3) := by decide +kernel
theorem dX4_next_216 : decode cX4_next 216 = .ok (.goto (-64), 3) := by decide +kernel
theorem dX4_next_219 : decode cX4_next 219 = .ok (.aload_n 0, 1) := by decide +kernel
theorem dX4_next_220 : decode cX4_next 220 = .ok (.aload_n 0, 1) := by decide +kernel
theorem dX4_next_221 : decode cX4_next 221 = .ok (.getfield 33, 3) := by decide +kernel
theorem dX4_next_224 : decode cX4_next 224 = .ok (.getfield 201, 3) := by decide +kernel
theorem dX4_next_227 : decode cX4_next 227 = .ok (.aload_n 0, 1) := by decide +kernel
theorem dX4_next_228 : decode cX4_next 228 = .ok (.getfield 18, 3) := by decide +kernel
theorem dX4_next_231 : decode cX4_next 231 = .ok (.baload, 1) := by decide +kernel
theorem dX4_next_232 : decode cX4_next 232 = .ok (.bipush 59, 2) := by decide +kernel
theorem dX4_next_234 : decode cX4_next 234 = .ok (.if_icmp .ne 7, 3) := by decide +kernel
theorem dX4_next_237 : decode cX4_next 237 = .ok (.iconst 3, 1) := by decide +kernel
theorem dX4_next_238 : decode cX4_next 238 = .ok (.goto 4, 3) := by decide +kernel
theorem dX4_next_241 : decode cX4_next 241 = .ok (.iconst 4, 1) := by decide +kernel
theorem dX4_next_242 : decode cX4_next 242 = .ok (.putfield 11, 3) := by decide +kernel
theorem dX4_next_245 : decode cX4_next 245 = .ok (.aload_n 0, 1) := by decide +kernel
theorem dX4_next_246 : decode cX4_next 246 = .ok (.dup, 1) := by decide +kernel
theorem dX4_next_247 : decode cX4_next 247 = .ok (.getfield 18, 3) := by decide +kernel
theorem dX4_next_250 : decode cX4_next 250 = .ok (.iconst 1, 1) := by decide +kernel
theorem dX4_next_251 : decode cX4_next 251 = .ok (.iadd, 1) := by decide +kernel
theorem dX4_next_252 : decode cX4_next 252 = .ok (.putfield 18, 3) := by decide +kernel
theorem dX4_next_255 : decode cX4_next 255 = .ok (.return_, 1) := by decide +kernel
theorem dX4_opKind_0 : decode cX4_opKind 0 = .ok (.aload_n 0, 1) := by decide +kernel
theorem dX4_opKind_1 : decode cX4_opKind 1 = .ok (.ldc 163, 2) := by decide +kernel
theorem dX4_opKind_3 : decode cX4_opKind 3 = .ok (.invokevirtual 61, 3) := by decide +kernel
theorem dX4_opKind_6 : decode cX4_opKind 6 = .ok (.ifCond .eq 7, 3) := by decide +kernel
theorem dX4_opKind_9 : decode cX4_opKind 9 = .ok (.iconst 0, 1) := by decide +kernel
theorem dX4_opKind_10 : decode cX4_opKind 10 = .ok (.goto 43, 3) := by decide +kernel
theorem dX4_opKind_13 : decode cX4_opKind 13 = .ok (.aload_n 0, 1) := by decide +kernel
theorem dX4_opKind_14 : decode cX4_opKind 14 = .ok (.ldc 165, 2) := by decide +kernel
theorem dX4_opKind_16 : decode cX4_opKind 16 = .ok (.invokevirtual 61, 3) := by decide +kernel
theorem dX4_opKind_19 : decode cX4_opKind 19 = .ok (.ifCond .eq 7, 3) := by decide +kernel
theorem dX4_opKind_22 : decode cX4_opKind 22 = .ok (.iconst 1, 1) := by decide +kernel
theorem dX4_opKind_23 : decode cX4_opKind 23 = .ok (.goto 30, 3) := by decide +kernel
theorem dX4_opKind_26 : decode cX4_opKind 26 = .ok (.aload_n 0, 1) := by decide +kernel
theorem dX4_opKind_27 : decode cX4_opKind 27 = .ok (.ldc 167, 2) := by decide +kernel
theorem dX4_opKind_29 : decode cX4_opKind 29 = .ok (.invokevirtual 61, 3) := by decide +kernel
theorem dX4_opKind_32 : decode cX4_opKind 32 = .ok (.ifCond .eq 7, 3) := by decide +kernel
theorem dX4_opKind_35 : decode cX4_opKind 35 = .ok (.iconst 2, 1) := by decide +kernel
theorem dX4_opKind_36 : decode cX4_opKind 36 = .ok (.goto 17, 3) := by decide +kernel
theorem dX4_opKind_39 : decode cX4_opKind 39 = .ok (.aload_n 0, 1) := by decide +kernel
theorem dX4_opKind_40 : decode cX4_opKind 40 = .ok (.ldc 169, 2) := by decide +kernel
theorem dX4_opKind_42 : decode cX4_opKind 42 = .ok (.invokevirtual 61, 3) := by decide +kernel
theorem dX4_opKind_45 : decode cX4_opKind 45 = .ok (.ifCond .eq 7, 3) := by decide +kernel
theorem dX4_opKind_48 : decode cX4_opKind 48 = .ok (.iconst 3, 1) := by decide +kernel
theorem dX4_opKind_49 : decode cX4_opKind 49 = .ok (.goto 4, 3) := by decide +kernel
theorem dX4_opKind_52 : decode cX4_opKind 52 = .ok (.iconst (-1), 1) := by decide +kernel
theorem dX4_opKind_53 : decode cX4_opKind 53 = .ok (.ireturn, 1) := by decide +kernel
theorem dX4_opShape_0 : decode cX4_opShape 0 = .ok (.iload_n 0, 1) := by decide +kernel
theorem dX4_opShape_1 : decode cX4_opShape 1 = .ok (.lookupswitch 33 #[(2, 27), (3, 30)], 27) := by decide +kernel
theorem dX4_opShape_28 : decode cX4_opShape 28 = .ok (.ldc 171, 2) := by decide +kernel
theorem dX4_opShape_30 : decode cX4_opShape 30 = .ok (.areturn, 1) := by decide +kernel
theorem dX4_opShape_31 : decode cX4_opShape 31 = .ok (.ldc 179, 2) := by decide +kernel
theorem dX4_opShape_33 : decode cX4_opShape 33 = .ok (.areturn, 1) := by decide +kernel
theorem dX4_opShape_34 : decode cX4_opShape 34 = .ok (.ldc 181, 2) := by decide +kernel
theorem dX4_opShape_36 : decode cX4_opShape 36 = .ok (.areturn, 1) := by decide +kernel
theorem dX4_passNumber_0 : decode cX4_passNumber 0 = .ok (.aload_n 0, 1) := by decide +kernel
theorem dX4_passNumber_1 : decode cX4_passNumber 1 = .ok (.getfield 11, 3) := by decide +kernel
theorem dX4_passNumber_4 : decode cX4_passNumber 4 = .ok (.iconst 2, 1) := by decide +kernel
theorem dX4_passNumber_5 : decode cX4_passNumber 5 = .ok (.if_icmp .eq 9, 3) := by decide +kernel
theorem dX4_passNumber_8 : decode cX4_passNumber 8 = .ok (.aload_n 0, 1) := by decide +kernel
theorem dX4_passNumber_9 : decode cX4_passNumber 9 = .ok (.iconst 1, 1) := by decide +kernel
theorem dX4_passNumber_10 : decode cX4_passNumber 10 = .ok (.invokevirtual 78, 3) := by decide +kernel
theorem dX4_passNumber_13 : decode cX4_passNumber 13 = .ok (.ireturn, 1) := by decide +kernel
theorem dX4_passNumber_14 : decode cX4_passNumber 14 = .ok (.aload_n 0, 1) := by decide +kernel
theorem dX4_passNumber_15 : decode cX4_passNumber 15 = .ok (.getfield 21, 3) := by decide +kernel
theorem dX4_passNumber_18 : decode cX4_passNumber 18 = .ok (.iload_n 1, 1) := by decide +kernel
theorem dX4_passNumber_19 : decode cX4_passNumber 19 = .ok (.if_icmp .lt 11, 3) := by decide +kernel
theorem dX4_passNumber_22 : decode cX4_passNumber 22 = .ok (.aload_n 0, 1) := by decide +kernel
theorem dX4_passNumber_23 : decode cX4_passNumber 23 = .ok (.getfield 21, 3) := by decide +kernel
theorem dX4_passNumber_26 : decode cX4_passNumber 26 = .ok (.iload_n 2, 1) := by decide +kernel
theorem dX4_passNumber_27 : decode cX4_passNumber 27 = .ok (.if_icmp .le 9, 3) := by decide +kernel
theorem dX4_passNumber_30 : decode cX4_passNumber 30 = .ok (.aload_n 0, 1) := by decide +kernel
theorem dX4_passNumber_31 : decode cX4_passNumber 31 = .ok (.iconst 2, 1) := by decide +kernel
theorem dX4_passNumber_32 : decode cX4_passNumber 32 = .ok (.invokevirtual 78, 3) := by decide +kernel
theorem dX4_passNumber_35 : decode cX4_passNumber 35 = .ok (.ireturn, 1) := by decide +kernel
theorem dX4_passNumber_36 : decode cX4_passNumber 36 = .ok (.aload_n 0, 1) := by decide +kernel
theorem dX4_passNumber_37 : decode cX4_passNumber 37 = .ok (.aload_n 0, 1) := by decide +kernel
theorem dX4_passNumber_38 : decode cX4_passNumber 38 = .ok (.getfield 21, 3) := by decide +kernel
theorem dX4_passNumber_41 : decode cX4_passNumber 41 = .ok (.putfield 24, 3) := by decide +kernel
theorem dX4_passNumber_44 : decode cX4_passNumber 44 = .ok (.aload_n 0, 1) := by decide +kernel
theorem dX4_passNumber_45 : decode cX4_passNumber 45 = .ok (.invokevirtual 46, 3) := by decide +kernel
theorem dX4_passNumber_48 : decode cX4_passNumber 48 = .ok (.iconst 1, 1) := by decide +kernel
theorem dX4_passNumber_49 : decode cX4_passNumber 49 = .ok (.ireturn, 1) := by decide +kernel
theorem dX4_passNumbers_0 : decode cX4_passNumbers 0 = .ok (.iload 4, 2) := by decide +kernel
theorem dX4_passNumbers_2 : decode cX4_passNumbers 2 = .ok (.ifCond .lt 22, 3) := by decide +kernel
theorem dX4_passNumbers_5 : decode cX4_passNumbers 5 = .ok (.iload 4, 2) := by decide +kernel
theorem dX4_passNumbers_7 : decode cX4_passNumbers 7 = .ok (.iload 5, 2) := by decide +kernel
theorem dX4_passNumbers_9 : decode cX4_passNumbers 9 = .ok (.iadd, 1) := by decide +kernel
theorem dX4_passNumbers_10 : decode cX4_passNumbers 10 = .ok (.aload_n 3, 1) := by decide +kernel
theorem dX4_passNumbers_11 : decode cX4_passNumbers 11 = .ok (.arraylength, 1) := by decide +kernel
theorem dX4_passNumbers_12 : decode cX4_passNumbers 12 = .ok (.if_icmp .gt 12, 3) := by decide +kernel
theorem dX4_passNumbers_15 : decode cX4_passNumbers 15 = .ok (.aload_n 2, 1) := by decide +kernel
theorem dX4_passNumbers_16 : decode cX4_passNumbers 16 = .ok (.invokevirtual 183, 3) := by decide +kernel
theorem dX4_passNumbers_19 : decode cX4_passNumbers 19 = .ok (.iload 5, 2) := by decide +kernel
theorem dX4_passNumbers_21 : decode cX4_passNumbers 21 = .ok (.if_icmp .lt 9, 3) := by decide +kernel
theorem dX4_passNumbers_24 : decode cX4_passNumbers 24 = .ok (.aload_n 0, 1) := by decide +kernel
theorem dX4_passNumbers_25 : decode cX4_passNumbers 25 = .ok (.iconst 3, 1) := by decide +kernel
theorem dX4_passNumbers_26 : decode cX4_passNumbers 26 = .ok (.invokevirtual 78, 3) := by decide +kernel
theorem dX4_passNumbers_29 : decode cX4_passNumbers 29 = .ok (.ireturn, 1) := by decide +kernel
theorem dX4_passNumbers_30 : decode cX4_passNumbers 30 = .ok (.aload_n 3, 1) := by decide +kernel
theorem dX4_passNumbers_31 : decode cX4_passNumbers 31 = .ok (.iload 4, 2) := by decide +kernel
theorem dX4_passNumbers_33 : decode cX4_passNumbers 33 = .ok (.iload_n 1, 1) := by decide +kernel
theorem dX4_passNumbers_34 : decode cX4_passNumbers 34 = .ok (.iastore, 1) := by decide +kernel
theorem dX4_passNumbers_35 : decode cX4_passNumbers 35 = .ok (.iconst 1, 1) := by decide +kernel
theorem dX4_passNumbers_36 : decode cX4_passNumbers 36 = .ok (.istore 6, 2) := by decide +kernel
theorem dX4_passNumbers_38 : decode cX4_passNumbers 38 = .ok (.iload 6, 2) := by decide +kernel
theorem dX4_passNumbers_40 : decode cX4_passNumbers 40 = .ok (.iload 5, 2) := by decide +kernel
theorem dX4_passNumbers_42 : decode cX4_passNumbers 42 = .ok (.if_icmp .ge 17, 3) := by decide +kernel
theorem dX4_passNumbers_45 : decode cX4_passNumbers 45 = .ok (.aload_n 3, 1) := by decide +kernel
theorem dX4_passNumbers_46 : decode cX4_passNumbers 46 = .ok (.iload 4, 2) := by decide +kernel
theorem dX4_passNumbers_48 : decode cX4_passNumbers 48 = .ok (.iload 6, 2) := by decide +kernel
theorem dX4_passNumbers_50 : decode cX4_passNumbers 50 = .ok (.iadd, 1) := by decide +kernel
theorem dX4_passNumbers_51 : decode cX4_passNumbers 51 = .ok (.iconst (-1), 1) := by decide +kernel
theorem dX4_passNumbers_52 : decode cX4_passNumbers 52 = .ok (.iastore, 1) := by decide +kernel
theorem dX4_passNumbers_53 : decode cX4_passNumbers 53 = .ok (.iinc 6 1, 3) := by decide +kernel
theorem dX4_passNumbers_56 : decode cX4_passNumbers 56 = .ok (.goto (-18), 3) := by decide +kernel
theorem dX4_passNumbers_59 : decode cX4_passNumbers 59 = .ok (.iconst 0, 1) := by decide +kernel
theorem dX4_passNumbers_60 : decode cX4_passNumbers 60 = .ok (.istore 6, 2) := by decide +kernel
theorem dX4_passNumbers_62 : decode cX4_passNumbers 62 = .ok (.iload 6, 2) := by decide +kernel
theorem dX4_passNumbers_64 : decode cX4_passNumbers 64 = .ok (.aload_n 2, 1) := by decide +kernel
theorem dX4_passNumbers_65 : decode cX4_passNumbers 65 = .ok (.invokevirtual 183, 3) := by decide +kernel
theorem dX4_passNumbers_68 : decode cX4_passNumbers 68 = .ok (.if_icmp .ge 113, 3) := by decide +kernel
theorem dX4_passNumbers_71 : decode cX4_passNumbers 71 = .ok (.aload_n 2, 1) := by decide +kernel
theorem dX4_passNumbers_72 : decode cX4_passNumbers 72 = .ok (.iload 6, 2) := by decide +kernel
theorem dX4_passNumbers_74 : decode cX4_passNumbers 74 = .ok (.invokevirtual 188, 3) := by decide +kernel
theorem dX4_passNumbers_77 : decode cX4_passNumbers 77 = .ok (.istore 7, 2) := by decide +kernel
theorem dX4_passNumbers_79 : decode cX4_passNumbers 79 = .ok (.aload_n 0, 1) := by decide +kernel
theorem dX4_passNumbers_80 : decode cX4_passNumbers 80 = .ok (.getfield 11, 3) := by decide +kernel
theorem dX4_passNumbers_83 : decode cX4_passNumbers 83 = .ok (.iconst 2, 1) := by decide +kernel
theorem dX4_passNumbers_84 : decode cX4_passNumbers 84 = .ok (.if_icmp .eq 9, 3) := by decide +kernel
theorem dX4_passNumbers_87 : decode cX4_passNumbers 87 = .ok (.aload_n 0, 1) := by decide +kernel
theorem dX4_passNumbers_88 : decode cX4_passNumbers 88 = .ok (.iconst 1, 1) := by decide +kernel
theorem dX4_passNumbers_89 : decode cX4_passNumbers 89 = .ok (.invokevirtual 78, 3) := by decide +kernel
theorem dX4_passNumbers_92 : decode cX4_passNumbers 92 = .ok (.ireturn, 1) := by decide +kernel
theorem dX4_passNumbers_93 : decode cX4_passNumbers 93 = .ok (.iload 7, 2) := by decide +kernel
theorem dX4_passNumbers_95 : decode cX4_passNumbers 95 = .ok (.bipush 66, 2) := by decide +kernel
theorem dX4_passNumbers_97 : decode cX4_passNumbers 97 = .ok (.if_icmp .ne 20, 3) := by decide +kernel
theorem dX4_passNumbers_100 : decode cX4_passNumbers 100 = .ok (.aload_n 0, 1) := by decide +kernel
theorem dX4_passNumbers_101 : decode cX4_passNumbers 101 = .ok (.getfield 21, 3) := by decide +kernel
theorem dX4_passNumbers_104 : decode cX4_passNumbers 104 = .ok (.aload_n 3, 1) := by decide +kernel
theorem dX4_passNumbers_105 : decode cX4_passNumbers 105 = .ok (.iload 4, 2) := by decide +kernel
theorem dX4_passNumbers_107 : decode cX4_passNumbers 107 = .ok (.iconst 1, 1) := by decide +kernel
theorem dX4_passNumbers_108 : decode cX4_passNumbers 108 = .ok (.iadd, 1) := by decide +kernel
theorem dX4_passNumbers_109 : decode cX4_passNumbers 109 = .ok (.iaload, 1) := by decide +kernel
theorem dX4_passNumbers_110 : decode cX4_passNumbers 110 = .ok (.if_icmp .ne 7, 3) := by decide +kernel
theorem dX4_passNumbers_113 : decode cX4_passNumbers 113 = .ok (.iconst 1, 1) := by decide +kernel
theorem dX4_passNumbers_114 : decode cX4_passNumbers 114 = .ok (.goto 4, 3) := by decide +kernel
theorem dX4_passNumbers_117 : decode cX4_passNumbers 117 = .ok (.iconst 0, 1) := by decide +kernel
theorem dX4_passNumbers_118 : decode cX4_passNumbers 118 = .ok (.istore 8, 2) := by decide +kernel
theorem dX4_passNumbers_120 : decode cX4_passNumbers 120 = .ok (.iload 8, 2) := by decide +kernel
theorem dX4_passNumbers_122 : decode cX4_passNumbers 122 = .ok (.ifCond .ne 30, 3) := by decide +kernel
theorem dX4_passNumbers_125 : decode cX4_passNumbers 125 = .ok (.aload_n 0, 1) := by decide +kernel
theorem dX4_passNumbers_126 : decode cX4_passNumbers 126 = .ok (.getfield 21, 3) := by decide +kernel
theorem dX4_passNumbers_129 : decode cX4_passNumbers 129 = .ok (.aload_n 0, 1) := by decide +kernel
theorem dX4_passNumbers_130 : decode cX4_passNumbers 130 = .ok (.iload 7, 2) := by decide +kernel
theorem dX4_passNumbers_132 : decode cX4_passNumbers 132 = .ok (.invokevirtual 192, 3) := by decide +kernel
theorem dX4_passNumbers_135 : decode cX4_passNumbers 135 = .ok (.if_icmp .gt 17, 3) := by decide +kernel
theorem dX4_passNumbers_138 : decode cX4_passNumbers 138 = .ok (.iload 7, 2) := by decide +kernel
theorem dX4_passNumbers_140 : decode cX4_passNumbers 140 = .ok (.bipush 80, 2) := by decide +kernel
theorem dX4_passNumbers_142 : decode cX4_passNumbers 142 = .ok (.if_icmp .ne 16, 3) := by decide +kernel
theorem dX4_passNumbers_145 : decode cX4_passNumbers 145 = .ok (.aload_n 0, 1) := by decide +kernel
theorem dX4_passNumbers_146 : decode cX4_passNumbers 146 = .ok (.getfield 21, 3) := by decide +kernel
theorem dX4_passNumbers_149 : decode cX4_passNumbers 149 = .ok (.ifCond .ne 9, 3) := by decide +kernel
theorem dX4_passNumbers_152 : decode cX4_passNumbers 152 = .ok (.aload_n 0, 1) := by decide +kernel
theorem dX4_passNumbers_153 : decode cX4_passNumbers 153 = .ok (.iconst 2, 1) := by decide +kernel
theorem dX4_passNumbers_154 : decode cX4_passNumbers 154 = .ok (.invokevirtual 78, 3) := by decide +kernel
theorem dX4_passNumbers_157 : decode cX4_passNumbers 157 = .ok (.ireturn, 1) := by decide +kernel
theorem dX4_passNumbers_158 : decode cX4_passNumbers 158 = .ok (.aload_n 3, 1) := by decide +kernel
theorem dX4_passNumbers_159 : decode cX4_passNumbers 159 = .ok (.iload 4, 2) := by decide +kernel
theorem dX4_passNumbers_161 : decode cX4_passNumbers 161 = .ok (.iconst 1, 1) := by decide +kernel
theorem dX4_passNumbers_162 : decode cX4_passNumbers 162 = .ok (.iadd, 1) := by decide +kernel
theorem dX4_passNumbers_163 : decode cX4_passNumbers 163 = .ok (.iload 6, 2) := by decide +kernel
theorem dX4_passNumbers_165 : decode cX4_passNumbers 165 = .ok (.iadd, 1) := by decide +kernel
theorem dX4_passNumbers_166 : decode cX4_passNumbers 166 = .ok (.aload_n 0, 1) := by decide +kernel
theorem dX4_passNumbers_167 : decode cX4_passNumbers 167 = .ok (.getfield 21, 3) := by decide +kernel
theorem dX4_passNumbers_170 : decode cX4_passNumbers 170 = .ok (.iastore, 1) := by decide +kernel
theorem dX4_passNumbers_171 : decode cX4_passNumbers 171 = .ok (.aload_n 0, 1) := by decide +kernel
theorem dX4_passNumbers_172 : decode cX4_passNumbers 172 = .ok (.invokevirtual 46, 3) := by decide +kernel
theorem dX4_passNumbers_175 : decode cX4_passNumbers 175 = .ok (.iinc 6 1, 3) := by decide +kernel
theorem dX4_passNumbers_178 : decode cX4_passNumbers 178 = .ok (.goto (-116), 3) := by decide +kernel
theorem dX4_passNumbers_181 : decode cX4_passNumbers 181 = .ok (.iconst 1, 1) := by decide +kernel
theorem dX4_passNumbers_182 : decode cX4_passNumbers 182 = .ok (.ireturn, 1) := by decide +kernel
theorem dX4_passWord_0 : decode cX4_passWord 0 = .ok (.aload_n 0, 1) := by decide +kernel
theorem dX4_passWord_1 : decode cX4_passWord 1 = .ok (.aload_n 1, 1) := by decide +kernel
theorem dX4_passWord_2 : decode cX4_passWord 2 = .ok (.invokevirtual 61, 3) := by decide +kernel
theorem dX4_passWord_5 : decode cX4_passWord 5 = .ok (.ifCond .ne 9, 3) := by decide +kernel
theorem dX4_passWord_8 : decode cX4_passWord 8 = .ok (.aload_n 0, 1) := by decide +kernel
theorem dX4_passWord_9 : decode cX4_passWord 9 = .ok (.iconst 1, 1) := by decide +kernel
theorem dX4_passWord_10 : decode cX4_passWord 10 = .ok (.invokevirtual 78, 3) := by decide +kernel
theorem dX4_passWord_13 : decode cX4_passWord 13 = .ok (.ireturn, 1) := by decide +kernel
theorem dX4_passWord_14 : decode cX4_passWord 14 = .ok (.aload_n 0, 1) := by decide +kernel
theorem dX4_passWord_15 : decode cX4_passWord 15 = .ok (.invokevirtual 46, 3) := by decide +kernel
theorem dX4_passWord_18 : decode cX4_passWord 18 = .ok (.iconst 1, 1) := by decide +kernel
theorem dX4_passWord_19 : decode cX4_passWord 19 = .ok (.ireturn, 1) := by decide +kernel
theorem dX4_readCell_0 : decode cX4_readCell 0 = .ok (.aload_n 0, 1) := by decide +kernel
theorem dX4_readCell_1 : decode cX4_readCell 1 = .ok (.getfield 37, 3) := by decide +kernel
theorem dX4_readCell_4 : decode cX4_readCell 4 = .ok (.getfield 103, 3) := by decide +kernel
theorem dX4_readCell_7 : decode cX4_readCell 7 = .ok (.iconst 3, 1) := by decide +kernel
theorem dX4_readCell_8 : decode cX4_readCell 8 = .ok (.if_icmp .lt 9, 3) := by decide +kernel
theorem dX4_readCell_11 : decode cX4_readCell 11 = .ok (.aload_n 0, 1) := by decide +kernel
theorem dX4_readCell_12 : decode cX4_readCell 12 = .ok (.iconst 3, 1) := by decide +kernel
theorem dX4_readCell_13 : decode cX4_readCell 13 = .ok (.invokevirtual 78, 3) := by decide +kernel
theorem dX4_readCell_16 : decode cX4_readCell 16 = .ok (.ireturn, 1) := by decide +kernel
theorem dX4_readCell_17 : decode cX4_readCell 17 = .ok (.aload_n 0, 1) := by decide +kernel
theorem dX4_readCell_18 : decode cX4_readCell 18 = .ok (.invokevirtual 46, 3) := by decide +kernel
theorem dX4_readCell_21 : decode cX4_readCell 21 = .ok (.aload_n 0, 1) := by decide +kernel
theorem dX4_readCell_22 : decode cX4_readCell 22 = .ok (.invokevirtual 106, 3) := by decide +kernel
theorem dX4_readCell_25 : decode cX4_readCell 25 = .ok (.istore_n 1, 1) := by decide +kernel
theorem dX4_readCell_26 : decode cX4_readCell 26 = .ok (.iload_n 1, 1) := by decide +kernel
theorem dX4_readCell_27 : decode cX4_readCell 27 = .ok (.iconst (-1), 1) := by decide +kernel
theorem dX4_readCell_28 : decode cX4_readCell 28 = .ok (.if_icmp .ne 9, 3) := by decide +kernel
theorem dX4_readCell_31 : decode cX4_readCell 31 = .ok (.aload_n 0, 1) := by decide +kernel
theorem dX4_readCell_32 : decode cX4_readCell 32 = .ok (.iconst 1, 1) := by decide +kernel
theorem dX4_readCell_33 : decode cX4_readCell 33 = .ok (.invokevirtual 78, 3) := by decide +kernel
theorem dX4_readCell_36 : decode cX4_readCell 36 = .ok (.ireturn, 1) := by decide +kernel
theorem dX4_readCell_37 : decode cX4_readCell 37 = .ok (.aload_n 0, 1) := by decide +kernel
theorem dX4_readCell_38 : decode cX4_readCell 38 = .ok (.invokevirtual 46, 3) := by decide +kernel
theorem dX4_readCell_41 : decode cX4_readCell 41 = .ok (.aload_n 0, 1) := by decide +kernel
theorem dX4_readCell_42 : decode cX4_readCell 42 = .ok (.getfield 37, 3) := by decide +kernel
theorem dX4_readCell_45 : decode cX4_readCell 45 = .ok (.getfield 110, 3) := by decide +kernel
theorem dX4_readCell_48 : decode cX4_readCell 48 = .ok (.aload_n 0, 1) := by decide +kernel
theorem dX4_readCell_49 : decode cX4_readCell 49 = .ok (.getfield 37, 3) := by decide +kernel
theorem dX4_readCell_52 : decode cX4_readCell 52 = .ok (.getfield 103, 3) := by decide +kernel
theorem dX4_readCell_55 : decode cX4_readCell 55 = .ok (.iload_n 1, 1) := by decide +kernel
theorem dX4_readCell_56 : decode cX4_readCell 56 = .ok (.iastore, 1) := by decide +kernel
theorem dX4_readCell_57 : decode cX4_readCell 57 = .ok (.aload_n 0, 1) := by decide +kernel
theorem dX4_readCell_58 : decode cX4_readCell 58 = .ok (.getfield 37, 3) := by decide +kernel
theorem dX4_readCell_61 : decode cX4_readCell 61 = .ok (.dup, 1) := by decide +kernel
theorem dX4_readCell_62 : decode cX4_readCell 62 = .ok (.getfield 103, 3) := by decide +kernel
theorem dX4_readCell_65 : decode cX4_readCell 65 = .ok (.iconst 1, 1) := by decide +kernel
theorem dX4_readCell_66 : decode cX4_readCell 66 = .ok (.iadd, 1) := by decide +kernel
theorem dX4_readCell_67 : decode cX4_readCell 67 = .ok (.putfield 103, 3) := by decide +kernel
theorem dX4_readCell_70 : decode cX4_readCell 70 = .ok (.iconst 1, 1) := by decide +kernel
theorem dX4_readCell_71 : decode cX4_readCell 71 = .ok (.ireturn, 1) := by decide +kernel
theorem dX4_readHead_0 : decode cX4_readHead 0 = .ok (.aload_n 0, 1) := by decide +kernel
theorem dX4_readHead_1 : decode cX4_readHead 1 = .ok (.ldc 82, 2) := by decide +kernel
theorem dX4_readHead_3 : decode cX4_readHead 3 = .ok (.invokevirtual 84, 3) := by decide +kernel
theorem dX4_readHead_6 : decode cX4_readHead 6 = .ok (.ifCond .eq 21, 3) := by decide +kernel
theorem dX4_readHead_9 : decode cX4_readHead 9 = .ok (.aload_n 0, 1) := by decide +kernel
theorem dX4_readHead_10 : decode cX4_readHead 10 = .ok (.ldc 87, 2) := by decide +kernel
theorem dX4_readHead_12 : decode cX4_readHead 12 = .ok (.invokevirtual 84, 3) := by decide +kernel
theorem dX4_readHead_15 : decode cX4_readHead 15 = .ok (.ifCond .eq 12, 3) := by decide +kernel
theorem dX4_readHead_18 : decode cX4_readHead 18 = .ok (.aload_n 0, 1) := by decide +kernel
theorem dX4_readHead_19 : decode cX4_readHead 19 = .ok (.iconst 1, 1) := by decide +kernel
theorem dX4_readHead_20 : decode cX4_readHead 20 = .ok (.iconst 3, 1) := by decide +kernel
theorem dX4_readHead_21 : decode cX4_readHead 21 = .ok (.invokevirtual 89, 3) := by decide +kernel
theorem dX4_readHead_24 : decode cX4_readHead 24 = .ok (.ifCond .ne 5, 3) := by decide +kernel
theorem dX4_readHead_27 : decode cX4_readHead 27 = .ok (.iconst 0, 1) := by decide +kernel
theorem dX4_readHead_28 : decode cX4_readHead 28 = .ok (.ireturn, 1) := by decide +kernel
theorem dX4_readHead_29 : decode cX4_readHead 29 = .ok (.aload_n 0, 1) := by decide +kernel
theorem dX4_readHead_30 : decode cX4_readHead 30 = .ok (.getfield 37, 3) := by decide +kernel
theorem dX4_readHead_33 : decode cX4_readHead 33 = .ok (.aload_n 0, 1) := by decide +kernel
theorem dX4_readHead_34 : decode cX4_readHead 34 = .ok (.getfield 24, 3) := by decide +kernel
theorem dX4_readHead_37 : decode cX4_readHead 37 = .ok (.putfield 93, 3) := by decide +kernel
theorem dX4_readHead_40 : decode cX4_readHead 40 = .ok (.aload_n 0, 1) := by decide +kernel
theorem dX4_readHead_41 : decode cX4_readHead 41 = .ok (.ldc 95, 2) := by decide +kernel
theorem dX4_readHead_43 : decode cX4_readHead 43 = .ok (.invokevirtual 84, 3) := by decide +kernel
theorem dX4_readHead_46 : decode cX4_readHead 46 = .ok (.ifCond .eq 12, 3) := by decide +kernel
theorem dX4_readHead_49 : decode cX4_readHead 49 = .ok (.aload_n 0, 1) := by decide +kernel
theorem dX4_readHead_50 : decode cX4_readHead 50 = .ok (.iconst 0, 1) := by decide +kernel
theorem dX4_readHead_51 : decode cX4_readHead 51 = .ok (.iconst 3, 1) := by decide +kernel
theorem dX4_readHead_52 : decode cX4_readHead 52 = .ok (.invokevirtual 89, 3) := by decide +kernel
theorem dX4_readHead_55 : decode cX4_readHead 55 = .ok (.ifCond .ne 5, 3) := by decide +kernel
theorem dX4_readHead_58 : decode cX4_readHead 58 = .ok (.iconst 0, 1) := by decide +kernel
theorem dX4_readHead_59 : decode cX4_readHead 59 = .ok (.ireturn, 1) := by decide +kernel
theorem dX4_readHead_60 : decode cX4_readHead 60 = .ok (.aload_n 0, 1) := by decide +kernel
theorem dX4_readHead_61 : decode cX4_readHead 61 = .ok (.getfield 37, 3) := by decide +kernel
theorem dX4_readHead_64 : decode cX4_readHead 64 = .ok (.aload_n 0, 1) := by decide +kernel
theorem dX4_readHead_65 : decode cX4_readHead 65 = .ok (.getfield 24, 3) := by decide +kernel
theorem dX4_readHead_68 : decode cX4_readHead 68 = .ok (.putfield 97, 3) := by decide +kernel
theorem dX4_readHead_71 : decode cX4_readHead 71 = .ok (.aload_n 0, 1) := by decide +kernel
theorem dX4_readHead_72 : decode cX4_readHead 72 = .ok (.ldc 99, 2) := by decide +kernel
theorem dX4_readHead_74 : decode cX4_readHead 74 = .ok (.invokevirtual 84, 3) := by decide +kernel
theorem dX4_readHead_77 : decode cX4_readHead 77 = .ok (.ifCond .eq 13, 3) := by decide +kernel
theorem dX4_readHead_80 : decode cX4_readHead 80 = .ok (.aload_n 0, 1) := by decide +kernel
theorem dX4_readHead_81 : decode cX4_readHead 81 = .ok (.iconst 0, 1) := by decide +kernel
theorem dX4_readHead_82 : decode cX4_readHead 82 = .ok (.bipush 10, 2) := by decide +kernel
theorem dX4_readHead_84 : decode cX4_readHead 84 = .ok (.invokevirtual 89, 3) := by decide +kernel
theorem dX4_readHead_87 : decode cX4_readHead 87 = .ok (.ifCond .ne 5, 3) := by decide +kernel
theorem dX4_readHead_90 : decode cX4_readHead 90 = .ok (.iconst 0, 1) := by decide +kernel
theorem dX4_readHead_91 : decode cX4_readHead 91 = .ok (.ireturn, 1) := by decide +kernel
theorem dX4_readHead_92 : decode cX4_readHead 92 = .ok (.aload_n 0, 1) := by decide +kernel
theorem dX4_readHead_93 : decode cX4_readHead 93 = .ok (.getfield 37, 3) := by decide +kernel
theorem dX4_readHead_96 : decode cX4_readHead 96 = .ok (.aload_n 0, 1) := by decide +kernel
theorem dX4_readHead_97 : decode cX4_readHead 97 = .ok (.getfield 24, 3) := by decide +kernel
theorem dX4_readHead_100 : decode cX4_readHead 100 = .ok (.putfield 101, 3) := by decide +kernel
theorem dX4_readHead_103 : decode cX4_readHead 103 = .ok (.iconst 1, 1) := by decide +kernel
theorem dX4_readHead_104 : decode cX4_readHead 104 = .ok (.ireturn, 1) := by decide +kernel
theorem dX4_readLine_0 : decode cX4_readLine 0 = .ok (.aload_n 0, 1) := by decide +kernel
theorem dX4_readLine_1 : decode cX4_readLine 1 = .ok (.getfield 37, 3) := by decide +kernel
theorem dX4_readLine_4 : decode cX4_readLine 4 = .ok (.getfield 53, 3) := by decide +kernel
theorem dX4_readLine_7 : decode cX4_readLine 7 = .ok (.ifCond .ne 11, 3) := by decide +kernel
theorem dX4_readLine_10 : decode cX4_readLine 10 = .ok (.aload_n 0, 1) := by decide +kernel
theorem dX4_readLine_11 : decode cX4_readLine 11 = .ok (.invokevirtual 56, 3) := by decide +kernel
theorem dX4_readLine_14 : decode cX4_readLine 14 = .ok (.istore_n 1, 1) := by decide +kernel
theorem dX4_readLine_15 : decode cX4_readLine 15 = .ok (.goto 60, 3) := by decide +kernel
theorem dX4_readLine_18 : decode cX4_readLine 18 = .ok (.aload_n 0, 1) := by decide +kernel
theorem dX4_readLine_19 : decode cX4_readLine 19 = .ok (.ldc 59, 2) := by decide +kernel
theorem dX4_readLine_21 : decode cX4_readLine 21 = .ok (.invokevirtual 61, 3) := by decide +kernel
theorem dX4_readLine_24 : decode cX4_readLine 24 = .ok (.ifCond .eq 11, 3) := by decide +kernel
theorem dX4_readLine_27 : decode cX4_readLine 27 = .ok (.aload_n 0, 1) := by decide +kernel
theorem dX4_readLine_28 : decode cX4_readLine 28 = .ok (.invokevirtual 65, 3) := by decide +kernel
theorem dX4_readLine_31 : decode cX4_readLine 31 = .ok (.istore_n 1, 1) := by decide +kernel
theorem dX4_readLine_32 : decode cX4_readLine 32 = .ok (.goto 43, 3) := by decide +kernel
theorem dX4_readLine_35 : decode cX4_readLine 35 = .ok (.aload_n 0, 1) := by decide +kernel
theorem dX4_readLine_36 : decode cX4_readLine 36 = .ok (.ldc 68, 2) := by decide +kernel
theorem dX4_readLine_38 : decode cX4_readLine 38 = .ok (.invokevirtual 61, 3) := by decide +kernel
theorem dX4_readLine_41 : decode cX4_readLine 41 = .ok (.ifCond .eq 11, 3) := by decide +kernel
theorem dX4_readLine_44 : decode cX4_readLine 44 = .ok (.aload_n 0, 1) := by decide +kernel
theorem dX4_readLine_45 : decode cX4_readLine 45 = .ok (.invokevirtual 70, 3) := by decide +kernel
theorem dX4_readLine_48 : decode cX4_readLine 48 = .ok (.istore_n 1, 1) := by decide +kernel
theorem dX4_readLine_49 : decode cX4_readLine 49 = .ok (.goto 26, 3) := by decide +kernel
theorem dX4_readLine_52 : decode cX4_readLine 52 = .ok (.aload_n 0, 1) := by decide +kernel
theorem dX4_readLine_53 : decode cX4_readLine 53 = .ok (.ldc 73, 2) := by decide +kernel
theorem dX4_readLine_55 : decode cX4_readLine 55 = .ok (.invokevirtual 61, 3) := by decide +kernel
theorem dX4_readLine_58 : decode cX4_readLine 58 = .ok (.ifCond .eq 11, 3) := by decide +kernel
theorem dX4_readLine_61 : decode cX4_readLine 61 = .ok (.aload_n 0, 1) := by decide +kernel
theorem dX4_readLine_62 : decode cX4_readLine 62 = .ok (.invokevirtual 75, 3) := by decide +kernel
theorem dX4_readLine_65 : decode cX4_readLine 65 = .ok (.istore_n 1, 1) := by decide +kernel
theorem dX4_readLine_66 : decode cX4_readLine 66 = .ok (.goto 9, 3) := by decide +kernel
theorem dX4_readLine_69 : decode cX4_readLine 69 = .ok (.aload_n 0, 1) := by decide +kernel
theorem dX4_readLine_70 : decode cX4_readLine 70 = .ok (.iconst 1, 1) := by decide +kernel
theorem dX4_readLine_71 : decode cX4_readLine 71 = .ok (.invokevirtual 78, 3) := by decide +kernel
theorem dX4_readLine_74 : decode cX4_readLine 74 = .ok (.istore_n 1, 1) := by decide +kernel
theorem dX4_readLine_75 : decode cX4_readLine 75 = .ok (.iload_n 1, 1) := by decide +kernel
theorem dX4_readLine_76 : decode cX4_readLine 76 = .ok (.ifCond .ne 5, 3) := by decide +kernel
theorem dX4_readLine_79 : decode cX4_readLine 79 = .ok (.iconst 0, 1) := by decide +kernel
theorem dX4_readLine_80 : decode cX4_readLine 80 = .ok (.ireturn, 1) := by decide +kernel
theorem dX4_readLine_81 : decode cX4_readLine 81 = .ok (.aload_n 0, 1) := by decide +kernel
theorem dX4_readLine_82 : decode cX4_readLine 82 = .ok (.getfield 11, 3) := by decide +kernel
theorem dX4_readLine_85 : decode cX4_readLine 85 = .ok (.iconst 3, 1) := by decide +kernel
theorem dX4_readLine_86 : decode cX4_readLine 86 = .ok (.if_icmp .eq 9, 3) := by decide +kernel
theorem dX4_readLine_89 : decode cX4_readLine 89 = .ok (.aload_n 0, 1) := by decide +kernel
theorem dX4_readLine_90 : decode cX4_readLine 90 = .ok (.iconst 1, 1) := by decide +kernel
theorem dX4_readLine_91 : decode cX4_readLine 91 = .ok (.invokevirtual 78, 3) := by decide +kernel
theorem dX4_readLine_94 : decode cX4_readLine 94 = .ok (.ireturn, 1) := by decide +kernel
theorem dX4_readLine_95 : decode cX4_readLine 95 = .ok (.aload_n 0, 1) := by decide +kernel
theorem dX4_readLine_96 : decode cX4_readLine 96 = .ok (.invokevirtual 46, 3) := by decide +kernel
theorem dX4_readLine_99 : decode cX4_readLine 99 = .ok (.aload_n 0, 1) := by decide +kernel
theorem dX4_readLine_100 : decode cX4_readLine 100 = .ok (.getfield 37, 3) := by decide +kernel
theorem dX4_readLine_103 : decode cX4_readLine 103 = .ok (.dup, 1) := by decide +kernel
theorem dX4_readLine_104 : decode cX4_readLine 104 = .ok (.getfield 53, 3) := by decide +kernel
theorem dX4_readLine_107 : decode cX4_readLine 107 = .ok (.iconst 1, 1) := by decide +kernel
theorem dX4_readLine_108 : decode cX4_readLine 108 = .ok (.iadd, 1) := by decide +kernel
theorem dX4_readLine_109 : decode cX4_readLine 109 = .ok (.putfield 53, 3) := by decide +kernel
theorem dX4_readLine_112 : decode cX4_readLine 112 = .ok (.iconst 1, 1) := by decide +kernel
theorem dX4_readLine_113 : decode cX4_readLine 113 = .ok (.ireturn, 1) := by decide +kernel
theorem dX4_readOp_0 : decode cX4_readOp 0 = .ok (.aload_n 0, 1) := by decide +kernel
theorem dX4_readOp_1 : decode cX4_readOp 1 = .ok (.getfield 37, 3) := by decide +kernel
theorem dX4_readOp_4 : decode cX4_readOp 4 = .ok (.getfield 131, 3) := by decide +kernel
theorem dX4_readOp_7 : decode cX4_readOp 7 = .ok (.iconst 5, 1) := by decide +kernel
theorem dX4_readOp_8 : decode cX4_readOp 8 = .ok (.if_icmp .lt 9, 3) := by decide +kernel
theorem dX4_readOp_11 : decode cX4_readOp 11 = .ok (.aload_n 0, 1) := by decide +kernel
theorem dX4_readOp_12 : decode cX4_readOp 12 = .ok (.iconst 3, 1) := by decide +kernel
theorem dX4_readOp_13 : decode cX4_readOp 13 = .ok (.invokevirtual 78, 3) := by decide +kernel
theorem dX4_readOp_16 : decode cX4_readOp 16 = .ok (.ireturn, 1) := by decide +kernel
theorem dX4_readOp_17 : decode cX4_readOp 17 = .ok (.aload_n 0, 1) := by decide +kernel
theorem dX4_readOp_18 : decode cX4_readOp 18 = .ok (.invokevirtual 46, 3) := by decide +kernel
theorem dX4_readOp_21 : decode cX4_readOp 21 = .ok (.aload_n 0, 1) := by decide +kernel
theorem dX4_readOp_22 : decode cX4_readOp 22 = .ok (.invokevirtual 134, 3) := by decide +kernel
theorem dX4_readOp_25 : decode cX4_readOp 25 = .ok (.istore_n 1, 1) := by decide +kernel
theorem dX4_readOp_26 : decode cX4_readOp 26 = .ok (.iload_n 1, 1) := by decide +kernel
theorem dX4_readOp_27 : decode cX4_readOp 27 = .ok (.iconst (-1), 1) := by decide +kernel
theorem dX4_readOp_28 : decode cX4_readOp 28 = .ok (.if_icmp .ne 9, 3) := by decide +kernel
theorem dX4_readOp_31 : decode cX4_readOp 31 = .ok (.aload_n 0, 1) := by decide +kernel
theorem dX4_readOp_32 : decode cX4_readOp 32 = .ok (.iconst 1, 1) := by decide +kernel
theorem dX4_readOp_33 : decode cX4_readOp 33 = .ok (.invokevirtual 78, 3) := by decide +kernel
theorem dX4_readOp_36 : decode cX4_readOp 36 = .ok (.ireturn, 1) := by decide +kernel
theorem dX4_readOp_37 : decode cX4_readOp 37 = .ok (.aload_n 0, 1) := by decide +kernel
theorem dX4_readOp_38 : decode cX4_readOp 38 = .ok (.invokevirtual 46, 3) := by decide +kernel
theorem dX4_readOp_41 : decode cX4_readOp 41 = .ok (.aload_n 0, 1) := by decide +kernel
theorem dX4_readOp_42 : decode cX4_readOp 42 = .ok (.iload_n 1, 1) := by decide +kernel
theorem dX4_readOp_43 : decode cX4_readOp 43 = .ok (.iload_n 1, 1) := by decide +kernel
theorem dX4_readOp_44 : decode cX4_readOp 44 = .ok (.invokestatic 137, 3) := by decide +kernel
theorem dX4_readOp_47 : decode cX4_readOp 47 = .ok (.aload_n 0, 1) := by decide +kernel
theorem dX4_readOp_48 : decode cX4_readOp 48 = .ok (.getfield 37, 3) := by decide +kernel
theorem dX4_readOp_51 : decode cX4_readOp 51 = .ok (.getfield 140, 3) := by decide +kernel
theorem dX4_readOp_54 : decode cX4_readOp 54 = .ok (.aload_n 0, 1) := by decide +kernel
theorem dX4_readOp_55 : decode cX4_readOp 55 = .ok (.getfield 37, 3) := by decide +kernel
theorem dX4_readOp_58 : decode cX4_readOp 58 = .ok (.getfield 131, 3) := by decide +kernel
theorem dX4_readOp_61 : decode cX4_readOp 61 = .ok (.iconst 4, 1) := by decide +kernel
theorem dX4_readOp_62 : decode cX4_readOp 62 = .ok (.imul, 1) := by decide +kernel
theorem dX4_readOp_63 : decode cX4_readOp 63 = .ok (.iconst 4, 1) := by decide +kernel
theorem dX4_readOp_64 : decode cX4_readOp 64 = .ok (.invokevirtual 127, 3) := by decide +kernel
theorem dX4_readOp_67 : decode cX4_readOp 67 = .ok (.ifCond .ne 5, 3) := by decide +kernel
theorem dX4_readOp_70 : decode cX4_readOp 70 = .ok (.iconst 0, 1) := by decide +kernel
theorem dX4_readOp_71 : decode cX4_readOp 71 = .ok (.ireturn, 1) := by decide +kernel
theorem dX4_readOp_72 : decode cX4_readOp 72 = .ok (.aload_n 0, 1) := by decide +kernel
theorem dX4_readOp_73 : decode cX4_readOp 73 = .ok (.getfield 37, 3) := by decide +kernel
theorem dX4_readOp_76 : decode cX4_readOp 76 = .ok (.dup, 1) := by decide +kernel
theorem dX4_readOp_77 : decode cX4_readOp 77 = .ok (.getfield 131, 3) := by decide +kernel
theorem dX4_readOp_80 : decode cX4_readOp 80 = .ok (.iconst 1, 1) := by decide +kernel
theorem dX4_readOp_81 : decode cX4_readOp 81 = .ok (.iadd, 1) := by decide +kernel
theorem dX4_readOp_82 : decode cX4_readOp 82 = .ok (.putfield 131, 3) := by decide +kernel
theorem dX4_readOp_85 : decode cX4_readOp 85 = .ok (.iconst 1, 1) := by decide +kernel
theorem dX4_readOp_86 : decode cX4_readOp 86 = .ok (.ireturn, 1) := by decide +kernel
theorem dX4_readRule_0 : decode cX4_readRule 0 = .ok (.aload_n 0, 1) := by decide +kernel
theorem dX4_readRule_1 : decode cX4_readRule 1 = .ok (.getfield 37, 3) := by decide +kernel
theorem dX4_readRule_4 : decode cX4_readRule 4 = .ok (.getfield 114, 3) := by decide +kernel
theorem dX4_readRule_7 : decode cX4_readRule 7 = .ok (.iconst 5, 1) := by decide +kernel
theorem dX4_readRule_8 : decode cX4_readRule 8 = .ok (.if_icmp .lt 9, 3) := by decide +kernel
theorem dX4_readRule_11 : decode cX4_readRule 11 = .ok (.aload_n 0, 1) := by decide +kernel
theorem dX4_readRule_12 : decode cX4_readRule 12 = .ok (.iconst 3, 1) := by decide +kernel
theorem dX4_readRule_13 : decode cX4_readRule 13 = .ok (.invokevirtual 78, 3) := by decide +kernel
theorem dX4_readRule_16 : decode cX4_readRule 16 = .ok (.ireturn, 1) := by decide +kernel
theorem dX4_readRule_17 : decode cX4_readRule 17 = .ok (.aload_n 0, 1) := by decide +kernel
theorem dX4_readRule_18 : decode cX4_readRule 18 = .ok (.invokevirtual 46, 3) := by decide +kernel
theorem dX4_readRule_21 : decode cX4_readRule 21 = .ok (.aload_n 0, 1) := by decide +kernel
theorem dX4_readRule_22 : decode cX4_readRule 22 = .ok (.invokevirtual 117, 3) := by decide +kernel
theorem dX4_readRule_25 : decode cX4_readRule 25 = .ok (.istore_n 1, 1) := by decide +kernel
theorem dX4_readRule_26 : decode cX4_readRule 26 = .ok (.iload_n 1, 1) := by decide +kernel
theorem dX4_readRule_27 : decode cX4_readRule 27 = .ok (.iconst (-1), 1) := by decide +kernel
theorem dX4_readRule_28 : decode cX4_readRule 28 = .ok (.if_icmp .ne 9, 3) := by decide +kernel
theorem dX4_readRule_31 : decode cX4_readRule 31 = .ok (.aload_n 0, 1) := by decide +kernel
theorem dX4_readRule_32 : decode cX4_readRule 32 = .ok (.iconst 1, 1) := by decide +kernel
theorem dX4_readRule_33 : decode cX4_readRule 33 = .ok (.invokevirtual 78, 3) := by decide +kernel
theorem dX4_readRule_36 : decode cX4_readRule 36 = .ok (.ireturn, 1) := by decide +kernel
theorem dX4_readRule_37 : decode cX4_readRule 37 = .ok (.aload_n 0, 1) := by decide +kernel
theorem dX4_readRule_38 : decode cX4_readRule 38 = .ok (.invokevirtual 46, 3) := by decide +kernel
theorem dX4_readRule_41 : decode cX4_readRule 41 = .ok (.aload_n 0, 1) := by decide +kernel
theorem dX4_readRule_42 : decode cX4_readRule 42 = .ok (.iload_n 1, 1) := by decide +kernel
theorem dX4_readRule_43 : decode cX4_readRule 43 = .ok (.iload_n 1, 1) := by decide +kernel
theorem dX4_readRule_44 : decode cX4_readRule 44 = .ok (.invokestatic 120, 3) := by decide +kernel
theorem dX4_readRule_47 : decode cX4_readRule 47 = .ok (.aload_n 0, 1) := by decide +kernel
theorem dX4_readRule_48 : decode cX4_readRule 48 = .ok (.getfield 37, 3) := by decide +kernel
theorem dX4_readRule_51 : decode cX4_readRule 51 = .ok (.getfield 124, 3) := by decide +kernel
theorem dX4_readRule_54 : decode cX4_readRule 54 = .ok (.aload_n 0, 1) := by decide +kernel
theorem dX4_readRule_55 : decode cX4_readRule 55 = .ok (.getfield 37, 3) := by decide +kernel
theorem dX4_readRule_58 : decode cX4_readRule 58 = .ok (.getfield 114, 3) := by decide +kernel
theorem dX4_readRule_61 : decode cX4_readRule 61 = .ok (.iconst 5, 1) := by decide +kernel
theorem dX4_readRule_62 : decode cX4_readRule 62 = .ok (.imul, 1) := by decide +kernel
theorem dX4_readRule_63 : decode cX4_readRule 63 = .ok (.iconst 5, 1) := by decide +kernel
theorem dX4_readRule_64 : decode cX4_readRule 64 = .ok (.invokevirtual 127, 3) := by decide +kernel
theorem dX4_readRule_67 : decode cX4_readRule 67 = .ok (.ifCond .ne 5, 3) := by decide +kernel
theorem dX4_readRule_70 : decode cX4_readRule 70 = .ok (.iconst 0, 1) := by decide +kernel
theorem dX4_readRule_71 : decode cX4_readRule 71 = .ok (.ireturn, 1) := by decide +kernel
theorem dX4_readRule_72 : decode cX4_readRule 72 = .ok (.aload_n 0, 1) := by decide +kernel
theorem dX4_readRule_73 : decode cX4_readRule 73 = .ok (.getfield 37, 3) := by decide +kernel
theorem dX4_readRule_76 : decode cX4_readRule 76 = .ok (.dup, 1) := by decide +kernel
theorem dX4_readRule_77 : decode cX4_readRule 77 = .ok (.getfield 114, 3) := by decide +kernel
theorem dX4_readRule_80 : decode cX4_readRule 80 = .ok (.iconst 1, 1) := by decide +kernel
theorem dX4_readRule_81 : decode cX4_readRule 81 = .ok (.iadd, 1) := by decide +kernel
theorem dX4_readRule_82 : decode cX4_readRule 82 = .ok (.putfield 114, 3) := by decide +kernel
theorem dX4_readRule_85 : decode cX4_readRule 85 = .ok (.iconst 1, 1) := by decide +kernel
theorem dX4_readRule_86 : decode cX4_readRule 86 = .ok (.ireturn, 1) := by decide +kernel
theorem dX4_readTape_0 : decode cX4_readTape 0 = .ok (.aload_n 0, 1) := by decide +kernel
theorem dX4_readTape_1 : decode cX4_readTape 1 = .ok (.getfield 37, 3) := by decide +kernel
theorem dX4_readTape_4 : decode cX4_readTape 4 = .ok (.invokevirtual 41, 3) := by decide +kernel
theorem dX4_readTape_7 : decode cX4_readTape 7 = .ok (.aload_n 0, 1) := by decide +kernel
theorem dX4_readTape_8 : decode cX4_readTape 8 = .ok (.iconst 0, 1) := by decide +kernel
theorem dX4_readTape_9 : decode cX4_readTape 9 = .ok (.putfield 27, 3) := by decide +kernel
theorem dX4_readTape_12 : decode cX4_readTape 12 = .ok (.aload_n 0, 1) := by decide +kernel
theorem dX4_readTape_13 : decode cX4_readTape 13 = .ok (.iconst (-1), 1) := by decide +kernel
theorem dX4_readTape_14 : decode cX4_readTape 14 = .ok (.putfield 30, 3) := by decide +kernel
theorem dX4_readTape_17 : decode cX4_readTape 17 = .ok (.aload_n 0, 1) := by decide +kernel
theorem dX4_readTape_18 : decode cX4_readTape 18 = .ok (.iconst 0, 1) := by decide +kernel
theorem dX4_readTape_19 : decode cX4_readTape 19 = .ok (.putfield 18, 3) := by decide +kernel
theorem dX4_readTape_22 : decode cX4_readTape 22 = .ok (.aload_n 0, 1) := by decide +kernel
theorem dX4_readTape_23 : decode cX4_readTape 23 = .ok (.invokevirtual 46, 3) := by decide +kernel
theorem dX4_readTape_26 : decode cX4_readTape 26 = .ok (.iconst 0, 1) := by decide +kernel
theorem dX4_readTape_27 : decode cX4_readTape 27 = .ok (.istore_n 1, 1) := by decide +kernel
theorem dX4_readTape_28 : decode cX4_readTape 28 = .ok (.iload_n 1, 1) := by decide +kernel
theorem dX4_readTape_29 : decode cX4_readTape 29 = .ok (.sipush 400, 3) := by decide +kernel
theorem dX4_readTape_32 : decode cX4_readTape 32 = .ok (.if_icmp .ge 25, 3) := by decide +kernel
theorem dX4_readTape_35 : decode cX4_readTape 35 = .ok (.aload_n 0, 1) := by decide +kernel
theorem dX4_readTape_36 : decode cX4_readTape 36 = .ok (.getfield 11, 3) := by decide +kernel
theorem dX4_readTape_39 : decode cX4_readTape 39 = .ok (.ifCond .eq 18, 3) := by decide +kernel
theorem dX4_readTape_42 : decode cX4_readTape 42 = .ok (.aload_n 0, 1) := by decide +kernel
theorem dX4_readTape_43 : decode cX4_readTape 43 = .ok (.invokevirtual 49, 3) := by decide +kernel
theorem dX4_readTape_46 : decode cX4_readTape 46 = .ok (.ifCond .ne 5, 3) := by decide +kernel
theorem dX4_readTape_49 : decode cX4_readTape 49 = .ok (.iconst 0, 1) := by decide +kernel
theorem dX4_readTape_50 : decode cX4_readTape 50 = .ok (.ireturn, 1) := by decide +kernel
theorem dX4_readTape_51 : decode cX4_readTape 51 = .ok (.iinc 1 1, 3) := by decide +kernel
theorem dX4_readTape_54 : decode cX4_readTape 54 = .ok (.goto (-26), 3) := by decide +kernel
theorem dX4_readTape_57 : decode cX4_readTape 57 = .ok (.iconst 1, 1) := by decide +kernel
theorem dX4_readTape_58 : decode cX4_readTape 58 = .ok (.ireturn, 1) := by decide +kernel
theorem dX4_ruleKind_0 : decode cX4_ruleKind 0 = .ok (.aload_n 0, 1) := by decide +kernel
theorem dX4_ruleKind_1 : decode cX4_ruleKind 1 = .ok (.ldc 151, 2) := by decide +kernel
theorem dX4_ruleKind_3 : decode cX4_ruleKind 3 = .ok (.invokevirtual 61, 3) := by decide +kernel
theorem dX4_ruleKind_6 : decode cX4_ruleKind 6 = .ok (.ifCond .eq 5, 3) := by decide +kernel
theorem dX4_ruleKind_9 : decode cX4_ruleKind 9 = .ok (.iconst 0, 1) := by decide +kernel
theorem dX4_ruleKind_10 : decode cX4_ruleKind 10 = .ok (.ireturn, 1) := by decide +kernel
theorem dX4_ruleKind_11 : decode cX4_ruleKind 11 = .ok (.aload_n 0, 1) := by decide +kernel
theorem dX4_ruleKind_12 : decode cX4_ruleKind 12 = .ok (.ldc 153, 2) := by decide +kernel
theorem dX4_ruleKind_14 : decode cX4_ruleKind 14 = .ok (.invokevirtual 61, 3) := by decide +kernel
theorem dX4_ruleKind_17 : decode cX4_ruleKind 17 = .ok (.ifCond .eq 5, 3) := by decide +kernel
theorem dX4_ruleKind_20 : decode cX4_ruleKind 20 = .ok (.iconst 1, 1) := by decide +kernel
theorem dX4_ruleKind_21 : decode cX4_ruleKind 21 = .ok (.ireturn, 1) := by decide +kernel
theorem dX4_ruleKind_22 : decode cX4_ruleKind 22 = .ok (.aload_n 0, 1) := by decide +kernel
theorem dX4_ruleKind_23 : decode cX4_ruleKind 23 = .ok (.ldc 155, 2) := by decide +kernel
theorem dX4_ruleKind_25 : decode cX4_ruleKind 25 = .ok (.invokevirtual 61, 3) := by decide +kernel
theorem dX4_ruleKind_28 : decode cX4_ruleKind 28 = .ok (.ifCond .eq 5, 3) := by decide +kernel
theorem dX4_ruleKind_31 : decode cX4_ruleKind 31 = .ok (.iconst 2, 1) := by decide +kernel
theorem dX4_ruleKind_32 : decode cX4_ruleKind 32 = .ok (.ireturn, 1) := by decide +kernel
theorem dX4_ruleKind_33 : decode cX4_ruleKind 33 = .ok (.aload_n 0, 1) := by decide +kernel
theorem dX4_ruleKind_34 : decode cX4_ruleKind 34 = .ok (.ldc 157, 2) := by decide +kernel
theorem dX4_ruleKind_36 : decode cX4_ruleKind 36 = .ok (.invokevirtual 61, 3) := by decide +kernel
theorem dX4_ruleKind_39 : decode cX4_ruleKind 39 = .ok (.ifCond .eq 5, 3) := by decide +kernel
theorem dX4_ruleKind_42 : decode cX4_ruleKind 42 = .ok (.iconst 3, 1) := by decide +kernel
theorem dX4_ruleKind_43 : decode cX4_ruleKind 43 = .ok (.ireturn, 1) := by decide +kernel
theorem dX4_ruleKind_44 : decode cX4_ruleKind 44 = .ok (.aload_n 0, 1) := by decide +kernel
theorem dX4_ruleKind_45 : decode cX4_ruleKind 45 = .ok (.ldc 159, 2) := by decide +kernel
theorem dX4_ruleKind_47 : decode cX4_ruleKind 47 = .ok (.invokevirtual 61, 3) := by decide +kernel
theorem dX4_ruleKind_50 : decode cX4_ruleKind 50 = .ok (.ifCond .eq 5, 3) := by decide +kernel
theorem dX4_ruleKind_53 : decode cX4_ruleKind 53 = .ok (.iconst 4, 1) := by decide +kernel
theorem dX4_ruleKind_54 : decode cX4_ruleKind 54 = .ok (.ireturn, 1) := by decide +kernel
theorem dX4_ruleKind_55 : decode cX4_ruleKind 55 = .ok (.aload_n 0, 1) := by decide +kernel
theorem dX4_ruleKind_56 : decode cX4_ruleKind 56 = .ok (.ldc 161, 2) := by decide +kernel
theorem dX4_ruleKind_58 : decode cX4_ruleKind 58 = .ok (.invokevirtual 61, 3) := by decide +kernel
theorem dX4_ruleKind_61 : decode cX4_ruleKind 61 = .ok (.ifCond .eq 7, 3) := by decide +kernel
theorem dX4_ruleKind_64 : decode cX4_ruleKind 64 = .ok (.iconst 5, 1) := by decide +kernel
theorem dX4_ruleKind_65 : decode cX4_ruleKind 65 = .ok (.goto 4, 3) := by decide +kernel
theorem dX4_ruleKind_68 : decode cX4_ruleKind 68 = .ok (.iconst (-1), 1) := by decide +kernel
theorem dX4_ruleKind_69 : decode cX4_ruleKind 69 = .ok (.ireturn, 1) := by decide +kernel
theorem dX4_ruleShape_0 : decode cX4_ruleShape 0 = .ok (.iload_n 0, 1) := by decide +kernel
theorem dX4_ruleShape_1 : decode cX4_ruleShape 1 = .ok (.tableswitch 48 0 5 #[39, 39, 48, 42, 48, 45], 39) := by decide +kernel
theorem dX4_ruleShape_40 : decode cX4_ruleShape 40 = .ok (.ldc 171, 2) := by decide +kernel
theorem dX4_ruleShape_42 : decode cX4_ruleShape 42 = .ok (.areturn, 1) := by decide +kernel
theorem dX4_ruleShape_43 : decode cX4_ruleShape 43 = .ok (.ldc 173, 2) := by decide +kernel
theorem dX4_ruleShape_45 : decode cX4_ruleShape 45 = .ok (.areturn, 1) := by decide +kernel
theorem dX4_ruleShape_46 : decode cX4_ruleShape 46 = .ok (.ldc 175, 2) := by decide +kernel
theorem dX4_ruleShape_48 : decode cX4_ruleShape 48 = .ok (.areturn, 1) := by decide +kernel
theorem dX4_ruleShape_49 : decode cX4_ruleShape 49 = .ok (.ldc 177, 2) := by decide +kernel
theorem dX4_ruleShape_51 : decode cX4_ruleShape 51 = .ok (.areturn, 1) := by decide +kernel
theorem iuX4_failed_X4 : ∀ w ∈ u_ws RX4 TX4 9, w ∈ W_X4_failed := fun w h => List.mem_cons_of_mem _ (List.mem_append_right _ (h))
theorem iuX4_highestOf_X0 : ∀ w ∈ u_ws RX0 TX0 15, w ∈ W_X4_highestOf := fun w h => List.mem_cons_of_mem _ (List.mem_append_right _ (List.mem_append_right _ (h)))
theorem iuX4_highestOf_X4 : ∀ w ∈ u_ws RX4 TX4 9, w ∈ W_X4_highestOf := fun w h => List.mem_cons_of_mem _ (List.mem_append_right _ (List.mem_append_left _ (h)))
theorem iuX4_isDigitNext_X4 : ∀ w ∈ u_ws RX4 TX4 9, w ∈ W_X4_isDigitNext := fun w h => List.mem_cons_of_mem _ (List.mem_append_right _ (List.mem_append_left _ (h)))
theorem iuX4_isDigitNext_X7 : ∀ w ∈ u_ws RX7 TX7 2, w ∈ W_X4_isDigitNext := fun w h => List.mem_cons_of_mem _ (List.mem_append_right _ (List.mem_append_right _ (h)))
theorem iuX4_isLetterNext_X4 : ∀ w ∈ u_ws RX4 TX4 9, w ∈ W_X4_isLetterNext := fun w h => List.mem_cons_of_mem _ (List.mem_append_right _ (List.mem_append_left _ (h)))
theorem iuX4_isLetterNext_X7 : ∀ w ∈ u_ws RX7 TX7 2, w ∈ W_X4_isLetterNext := fun w h => List.mem_cons_of_mem _ (List.mem_append_right _ (List.mem_append_right _ (h)))
theorem iuX4_isWord_X4 : ∀ w ∈ u_ws RX4 TX4 9, w ∈ W_X4_isWord := fun w h => List.mem_cons_of_mem _ (List.mem_append_right _ (List.mem_append_left _ (h)))
theorem iuX4_isWord_X7 : ∀ w ∈ u_ws RX7 TX7 2, w ∈ W_X4_isWord := fun w h => List.mem_cons_of_mem _ (List.mem_append_right _ (List.mem_append_right _ (List.mem_append_left _ (h))))
theorem iuX4_next_X4 : ∀ w ∈ u_ws RX4 TX4 9, w ∈ W_X4_next := fun w h => List.mem_cons_of_mem _ (List.mem_append_right _ (List.mem_append_left _ (h)))
theorem iuX4_next_X7 : ∀ w ∈ u_ws RX7 TX7 2, w ∈ W_X4_next := fun w h => List.mem_cons_of_mem _ (List.mem_append_right _ (List.mem_append_right _ (List.mem_append_left _ (h))))
theorem iuX4_passNumber_X4 : ∀ w ∈ u_ws RX4 TX4 9, w ∈ W_X4_passNumber := fun w h => List.mem_cons_of_mem _ (List.mem_append_right _ (List.mem_append_left _ (h)))
theorem iuX4_passNumbers_X4 : ∀ w ∈ u_ws RX4 TX4 9, w ∈ W_X4_passNumbers := fun w h => List.mem_cons_of_mem _ (List.mem_append_right _ (List.mem_append_left _ (h)))
theorem iuX4_readCell_X0 : ∀ w ∈ u_ws RX0 TX0 15, w ∈ W_X4_readCell := fun w h => List.mem_cons_of_mem _ (List.mem_append_right _ (List.mem_append_right _ (List.mem_append_left _ (h))))
theorem iuX4_readCell_X4 : ∀ w ∈ u_ws RX4 TX4 9, w ∈ W_X4_readCell := fun w h => List.mem_cons_of_mem _ (List.mem_append_right _ (List.mem_append_left _ (h)))
theorem iuX4_readHead_X0 : ∀ w ∈ u_ws RX0 TX0 15, w ∈ W_X4_readHead := fun w h => List.mem_cons_of_mem _ (List.mem_append_right _ (List.mem_append_right _ (List.mem_append_left _ (h))))
theorem iuX4_readHead_X4 : ∀ w ∈ u_ws RX4 TX4 9, w ∈ W_X4_readHead := fun w h => List.mem_cons_of_mem _ (List.mem_append_right _ (List.mem_append_left _ (h)))
theorem iuX4_readLine_X0 : ∀ w ∈ u_ws RX0 TX0 15, w ∈ W_X4_readLine := fun w h => List.mem_cons_of_mem _ (List.mem_append_right _ (List.mem_append_right _ (List.mem_append_left _ (h))))
theorem iuX4_readLine_X4 : ∀ w ∈ u_ws RX4 TX4 9, w ∈ W_X4_readLine := fun w h => List.mem_cons_of_mem _ (List.mem_append_right _ (List.mem_append_left _ (h)))
theorem iuX4_readOp_X0 : ∀ w ∈ u_ws RX0 TX0 15, w ∈ W_X4_readOp := fun w h => List.mem_cons_of_mem _ (List.mem_append_right _ (List.mem_append_right _ (List.mem_append_left _ (h))))
theorem iuX4_readOp_X4 : ∀ w ∈ u_ws RX4 TX4 9, w ∈ W_X4_readOp := fun w h => List.mem_cons_of_mem _ (List.mem_append_right _ (List.mem_append_left _ (h)))
theorem iuX4_readRule_X0 : ∀ w ∈ u_ws RX0 TX0 15, w ∈ W_X4_readRule := fun w h => List.mem_cons_of_mem _ (List.mem_append_right _ (List.mem_append_right _ (List.mem_append_left _ (h))))
theorem iuX4_readRule_X4 : ∀ w ∈ u_ws RX4 TX4 9, w ∈ W_X4_readRule := fun w h => List.mem_cons_of_mem _ (List.mem_append_right _ (List.mem_append_left _ (h)))
theorem iuX4_readTape_X4 : ∀ w ∈ u_ws RX4 TX4 9, w ∈ W_X4_readTape := fun w h => List.mem_cons_of_mem _ (List.mem_append_right _ (List.mem_append_left _ (h)))
theorem gw_X4_cellKind_X4_isWord : GoodIn W_X4_cellKind W_X4_isWord := fun w h => ⟨List.mem_cons_of_mem _ (List.mem_append_right _ (h)), (wI_X4_isWord w h).2⟩
theorem gc_X4_cellKind_61_X4_isWord : GoodIn W_X4_cellKind (wsV RX4 61 RX4 yX4_isWord W_X4_isWord) := goodIn_app (goodIn_sub (List.forall_mem_cons.mpr ⟨List.mem_cons_of_mem _ (List.mem_append_left _ (List.mem_of_getElem? (i := 0) rfl)), List.forall_mem_cons.mpr ⟨List.mem_cons_of_mem _ (List.mem_append_left _ (List.mem_of_getElem? (i := 1) rfl)), List.forall_mem_cons.mpr ⟨List.mem_cons_of_mem _ (List.mem_append_left _ (List.mem_of_getElem? (i := 2) rfl)), List.forall_mem_cons.mpr ⟨List.mem_cons_of_mem _ (List.mem_append_left _ (List.mem_of_getElem? (i := 3) rfl)), fun _ h => absurd h List.not_mem_nil⟩⟩⟩⟩) (by decide +kernel)) gw_X4_cellKind_X4_isWord
theorem gw_X4_isWord_J0_length_8abf5 : GoodIn W_X4_isWord W_J0_length_8abf5 := fun w h => ⟨List.mem_cons_of_mem _ (List.mem_append_right _ (List.mem_append_right _ (List.mem_append_right _ (List.mem_append_left _ (h))))), (wI_J0_length_8abf5 w h).2⟩
theorem gc_X4_isWord_183_J0_length_8abf5 : GoodIn W_X4_isWord (wsV RX4 183 RJ0 yJ0_length_8abf5 W_J0_length_8abf5) := goodIn_app (goodIn_sub (List.forall_mem_cons.mpr ⟨List.mem_cons_of_mem _ (List.mem_append_left _ (List.mem_of_getElem? (i := 3) rfl)), List.forall_mem_cons.mpr ⟨List.mem_cons_of_mem _ (List.mem_append_left _ (List.mem_of_getElem? (i := 4) rfl)), List.forall_mem_cons.mpr ⟨List.mem_cons_of_mem _ (List.mem_append_left _ (List.mem_of_getElem? (i := 5) rfl)), List.forall_mem_cons.mpr ⟨List.mem_cons_of_mem _ (List.mem_append_left _ (List.mem_of_getElem? (i := 6) rfl)), fun _ h => absurd h List.not_mem_nil⟩⟩⟩⟩) (by decide +kernel)) gw_X4_isWord_J0_length_8abf5
theorem gw_X4_isWord_J0_charAt_5068e : GoodIn W_X4_isWord W_J0_charAt_5068e := fun w h => ⟨List.mem_cons_of_mem _ (List.mem_append_right _ (List.mem_append_right _ (List.mem_append_right _ (List.mem_append_right _ (h))))), (wI_J0_charAt_5068e w h).2⟩
theorem gc_X4_isWord_188_J0_charAt_5068e : GoodIn W_X4_isWord (wsV RX4 188 RJ0 yJ0_charAt_5068e W_J0_charAt_5068e) := goodIn_app (goodIn_sub (List.forall_mem_cons.mpr ⟨List.mem_cons_of_mem _ (List.mem_append_left _ (List.mem_of_getElem? (i := 10) rfl)), List.forall_mem_cons.mpr ⟨List.mem_cons_of_mem _ (List.mem_append_left _ (List.mem_of_getElem? (i := 11) rfl)), List.forall_mem_cons.mpr ⟨List.mem_cons_of_mem _ (List.mem_append_left _ (List.mem_of_getElem? (i := 12) rfl)), List.forall_mem_cons.mpr ⟨List.mem_cons_of_mem _ (List.mem_append_left _ (List.mem_of_getElem? (i := 6) rfl)), fun _ h => absurd h List.not_mem_nil⟩⟩⟩⟩) (by decide +kernel)) gw_X4_isWord_J0_charAt_5068e
theorem gw_X4_next_X4_isLetterNext : GoodIn W_X4_next W_X4_isLetterNext := fun w h => ⟨List.mem_cons_of_mem _ (List.mem_append_right _ (List.mem_append_right _ (List.mem_append_right _ (List.mem_append_left _ (h))))), (wI_X4_isLetterNext w h).2⟩
theorem gc_X4_next_205_X4_isLetterNext : GoodIn W_X4_next (wsV RX4 205 RX4 yX4_isLetterNext W_X4_isLetterNext) := goodIn_app (goodIn_sub (List.forall_mem_cons.mpr ⟨List.mem_cons_of_mem _ (List.mem_append_left _ (List.mem_of_getElem? (i := 7) rfl)), List.forall_mem_cons.mpr ⟨List.mem_cons_of_mem _ (List.mem_append_left _ (List.mem_of_getElem? (i := 8) rfl)), List.forall_mem_cons.mpr ⟨List.mem_cons_of_mem _ (List.mem_append_left _ (List.mem_of_getElem? (i := 9) rfl)), List.forall_mem_cons.mpr ⟨List.mem_cons_of_mem _ (List.mem_append_left _ (List.mem_of_getElem? (i := 10) rfl)), fun _ h => absurd h List.not_mem_nil⟩⟩⟩⟩) (by decide +kernel)) gw_X4_next_X4_isLetterNext
theorem gw_X4_next_X4_isDigitNext : GoodIn W_X4_next W_X4_isDigitNext := fun w h => ⟨List.mem_cons_of_mem _ (List.mem_append_right _ (List.mem_append_right _ (List.mem_append_right _ (List.mem_append_right _ (h))))), (wI_X4_isDigitNext w h).2⟩
theorem gc_X4_next_208_X4_isDigitNext : GoodIn W_X4_next (wsV RX4 208 RX4 yX4_isDigitNext W_X4_isDigitNext) := goodIn_app (goodIn_sub (List.forall_mem_cons.mpr ⟨List.mem_cons_of_mem _ (List.mem_append_left _ (List.mem_of_getElem? (i := 11) rfl)), List.forall_mem_cons.mpr ⟨List.mem_cons_of_mem _ (List.mem_append_left _ (List.mem_of_getElem? (i := 12) rfl)), List.forall_mem_cons.mpr ⟨List.mem_cons_of_mem _ (List.mem_append_left _ (List.mem_of_getElem? (i := 13) rfl)), List.forall_mem_cons.mpr ⟨List.mem_cons_of_mem _ (List.mem_append_left _ (List.mem_of_getElem? (i := 10) rfl)), fun _ h => absurd h List.not_mem_nil⟩⟩⟩⟩) (by decide +kernel)) gw_X4_next_X4_isDigitNext
theorem gw_X4_opKind_X4_isWord : GoodIn W_X4_opKind W_X4_isWord := fun w h => ⟨List.mem_cons_of_mem _ (List.mem_append_right _ (h)), (wI_X4_isWord w h).2⟩
theorem gc_X4_opKind_61_X4_isWord : GoodIn W_X4_opKind (wsV RX4 61 RX4 yX4_isWord W_X4_isWord) := goodIn_app (goodIn_sub (List.forall_mem_cons.mpr ⟨List.mem_cons_of_mem _ (List.mem_append_left _ (List.mem_of_getElem? (i := 0) rfl)), List.forall_mem_cons.mpr ⟨List.mem_cons_of_mem _ (List.mem_append_left _ (List.mem_of_getElem? (i := 1) rfl)), List.forall_mem_cons.mpr ⟨List.mem_cons_of_mem _ (List.mem_append_left _ (List.mem_of_getElem? (i := 2) rfl)), List.forall_mem_cons.mpr ⟨List.mem_cons_of_mem _ (List.mem_append_left _ (List.mem_of_getElem? (i := 3) rfl)), fun _ h => absurd h List.not_mem_nil⟩⟩⟩⟩) (by decide +kernel)) gw_X4_opKind_X4_isWord
theorem gw_X4_passNumber_X4_next : GoodIn W_X4_passNumber W_X4_next := fun w h => ⟨List.mem_cons_of_mem _ (List.mem_append_right _ (List.mem_append_right _ (List.mem_append_right _ (h)))), (wI_X4_next w h).2⟩
theorem gc_X4_passNumber_46_X4_next : GoodIn W_X4_passNumber (wsV RX4 46 RX4 yX4_next W_X4_next) := goodIn_app (goodIn_sub (List.forall_mem_cons.mpr ⟨List.mem_cons_of_mem _ (List.mem_append_left _ (List.mem_of_getElem? (i := 7) rfl)), List.forall_mem_cons.mpr ⟨List.mem_cons_of_mem _ (List.mem_append_left _ (List.mem_of_getElem? (i := 8) rfl)), List.forall_mem_cons.mpr ⟨List.mem_cons_of_mem _ (List.mem_append_left _ (List.mem_of_getElem? (i := 9) rfl)), List.forall_mem_cons.mpr ⟨List.mem_cons_of_mem _ (List.mem_append_left _ (List.mem_of_getElem? (i := 4) rfl)), fun _ h => absurd h List.not_mem_nil⟩⟩⟩⟩) (by decide +kernel)) gw_X4_passNumber_X4_next
theorem gw_X4_passNumber_X4_failed : GoodIn W_X4_passNumber W_X4_failed := fun w h => ⟨List.mem_cons_of_mem _ (List.mem_append_right _ (List.mem_append_right _ (List.mem_append_left _ (h)))), (wI_X4_failed w h).2⟩
theorem gc_X4_passNumber_78_X4_failed : GoodIn W_X4_passNumber (wsV RX4 78 RX4 yX4_failed W_X4_failed) := goodIn_app (goodIn_sub (List.forall_mem_cons.mpr ⟨List.mem_cons_of_mem _ (List.mem_append_left _ (List.mem_of_getElem? (i := 1) rfl)), List.forall_mem_cons.mpr ⟨List.mem_cons_of_mem _ (List.mem_append_left _ (List.mem_of_getElem? (i := 2) rfl)), List.forall_mem_cons.mpr ⟨List.mem_cons_of_mem _ (List.mem_append_left _ (List.mem_of_getElem? (i := 3) rfl)), List.forall_mem_cons.mpr ⟨List.mem_cons_of_mem _ (List.mem_append_left _ (List.mem_of_getElem? (i := 4) rfl)), fun _ h => absurd h List.not_mem_nil⟩⟩⟩⟩) (by decide +kernel)) gw_X4_passNumber_X4_failed
theorem gw_X4_passNumbers_J0_length_8abf5 : GoodIn W_X4_passNumbers W_J0_length_8abf5 := fun w h => ⟨List.mem_cons_of_mem _ (List.mem_append_right _ (List.mem_append_right _ (List.mem_append_left _ (h)))), (wI_J0_length_8abf5 w h).2⟩
theorem gc_X4_passNumbers_183_J0_length_8abf5 : GoodIn W_X4_passNumbers (wsV RX4 183 RJ0 yJ0_length_8abf5 W_J0_length_8abf5) := goodIn_app (goodIn_sub (List.forall_mem_cons.mpr ⟨List.mem_cons_of_mem _ (List.mem_append_left _ (List.mem_of_getElem? (i := 0) rfl)), List.forall_mem_cons.mpr ⟨List.mem_cons_of_mem _ (List.mem_append_left _ (List.mem_of_getElem? (i := 1) rfl)), List.forall_mem_cons.mpr ⟨List.mem_cons_of_mem _ (List.mem_append_left _ (List.mem_of_getElem? (i := 2) rfl)), List.forall_mem_cons.mpr ⟨List.mem_cons_of_mem _ (List.mem_append_left _ (List.mem_of_getElem? (i := 3) rfl)), fun _ h => absurd h List.not_mem_nil⟩⟩⟩⟩) (by decide +kernel)) gw_X4_passNumbers_J0_length_8abf5
theorem gw_X4_passNumbers_J0_charAt_5068e : GoodIn W_X4_passNumbers W_J0_charAt_5068e := fun w h => ⟨List.mem_cons_of_mem _ (List.mem_append_right _ (List.mem_append_right _ (List.mem_append_right _ (List.mem_append_right _ (List.mem_append_left _ (h)))))), (wI_J0_charAt_5068e w h).2⟩
theorem gc_X4_passNumbers_188_J0_charAt_5068e : GoodIn W_X4_passNumbers (wsV RX4 188 RJ0 yJ0_charAt_5068e W_J0_charAt_5068e) := goodIn_app (goodIn_sub (List.forall_mem_cons.mpr ⟨List.mem_cons_of_mem _ (List.mem_append_left _ (List.mem_of_getElem? (i := 8) rfl)), List.forall_mem_cons.mpr ⟨List.mem_cons_of_mem _ (List.mem_append_left _ (List.mem_of_getElem? (i := 9) rfl)), List.forall_mem_cons.mpr ⟨List.mem_cons_of_mem _ (List.mem_append_left _ (List.mem_of_getElem? (i := 10) rfl)), List.forall_mem_cons.mpr ⟨List.mem_cons_of_mem _ (List.mem_append_left _ (List.mem_of_getElem? (i := 3) rfl)), fun _ h => absurd h List.not_mem_nil⟩⟩⟩⟩) (by decide +kernel)) gw_X4_passNumbers_J0_charAt_5068e
theorem gw_X4_passNumbers_X4_highestOf : GoodIn W_X4_passNumbers W_X4_highestOf := fun w h => ⟨List.mem_cons_of_mem _ (List.mem_append_right _ (List.mem_append_right _ (List.mem_append_right _ (List.mem_append_right _ (List.mem_append_right _ (List.mem_append_left _ (h))))))), (wI_X4_highestOf w h).2⟩
theorem gc_X4_passNumbers_192_X4_highestOf : GoodIn W_X4_passNumbers (wsV RX4 192 RX4 yX4_highestOf W_X4_highestOf) := goodIn_app (goodIn_sub (List.forall_mem_cons.mpr ⟨List.mem_cons_of_mem _ (List.mem_append_left _ (List.mem_of_getElem? (i := 13) rfl)), List.forall_mem_cons.mpr ⟨List.mem_cons_of_mem _ (List.mem_append_left _ (List.mem_of_getElem? (i := 14) rfl)), List.forall_mem_cons.mpr ⟨List.mem_cons_of_mem _ (List.mem_append_left _ (List.mem_of_getElem? (i := 15) rfl)), List.forall_mem_cons.mpr ⟨List.mem_cons_of_mem _ (List.mem_append_left _ (List.mem_of_getElem? (i := 7) rfl)), fun _ h => absurd h List.not_mem_nil⟩⟩⟩⟩) (by decide +kernel)) gw_X4_passNumbers_X4_highestOf
theorem gw_X4_passNumbers_X4_next : GoodIn W_X4_passNumbers W_X4_next := fun w h => ⟨List.mem_cons_of_mem _ (List.mem_append_right _ (List.mem_append_right _ (List.mem_append_right _ (List.mem_append_right _ (List.mem_append_right _ (List.mem_append_right _ (h))))))), (wI_X4_next w h).2⟩
theorem gc_X4_passNumbers_46_X4_next : GoodIn W_X4_passNumbers (wsV RX4 46 RX4 yX4_next W_X4_next) := goodIn_app (goodIn_sub (List.forall_mem_cons.mpr ⟨List.mem_cons_of_mem _ (List.mem_append_left _ (List.mem_of_getElem? (i := 16) rfl)), List.forall_mem_cons.mpr ⟨List.mem_cons_of_mem _ (List.mem_append_left _ (List.mem_of_getElem? (i := 17) rfl)), List.forall_mem_cons.mpr ⟨List.mem_cons_of_mem _ (List.mem_append_left _ (List.mem_of_getElem? (i := 18) rfl)), List.forall_mem_cons.mpr ⟨List.mem_cons_of_mem _ (List.mem_append_left _ (List.mem_of_getElem? (i := 7) rfl)), fun _ h => absurd h List.not_mem_nil⟩⟩⟩⟩) (by decide +kernel)) gw_X4_passNumbers_X4_next
theorem gw_X4_passNumbers_X4_failed : GoodIn W_X4_passNumbers W_X4_failed := fun w h => ⟨List.mem_cons_of_mem _ (List.mem_append_right _ (List.mem_append_right _ (List.mem_append_right _ (List.mem_append_left _ (h))))), (wI_X4_failed w h).2⟩
theorem gc_X4_passNumbers_78_X4_failed : GoodIn W_X4_passNumbers (wsV RX4 78 RX4 yX4_failed W_X4_failed) := goodIn_app (goodIn_sub (List.forall_mem_cons.mpr ⟨List.mem_cons_of_mem _ (List.mem_append_left _ (List.mem_of_getElem? (i := 4) rfl)), List.forall_mem_cons.mpr ⟨List.mem_cons_of_mem _ (List.mem_append_left _ (List.mem_of_getElem? (i := 5) rfl)), List.forall_mem_cons.mpr ⟨List.mem_cons_of_mem _ (List.mem_append_left _ (List.mem_of_getElem? (i := 6) rfl)), List.forall_mem_cons.mpr ⟨List.mem_cons_of_mem _ (List.mem_append_left _ (List.mem_of_getElem? (i := 7) rfl)), fun _ h => absurd h List.not_mem_nil⟩⟩⟩⟩) (by decide +kernel)) gw_X4_passNumbers_X4_failed
theorem gw_X4_passWord_X4_next : GoodIn W_X4_passWord W_X4_next := fun w h => ⟨List.mem_cons_of_mem _ (List.mem_append_right _ (List.mem_append_right _ (List.mem_append_right _ (h)))), (wI_X4_next w h).2⟩
theorem gc_X4_passWord_46_X4_next : GoodIn W_X4_passWord (wsV RX4 46 RX4 yX4_next W_X4_next) := goodIn_app (goodIn_sub (List.forall_mem_cons.mpr ⟨List.mem_cons_of_mem _ (List.mem_append_left _ (List.mem_of_getElem? (i := 7) rfl)), List.forall_mem_cons.mpr ⟨List.mem_cons_of_mem _ (List.mem_append_left _ (List.mem_of_getElem? (i := 8) rfl)), List.forall_mem_cons.mpr ⟨List.mem_cons_of_mem _ (List.mem_append_left _ (List.mem_of_getElem? (i := 9) rfl)), List.forall_mem_cons.mpr ⟨List.mem_cons_of_mem _ (List.mem_append_left _ (List.mem_of_getElem? (i := 3) rfl)), fun _ h => absurd h List.not_mem_nil⟩⟩⟩⟩) (by decide +kernel)) gw_X4_passWord_X4_next
theorem gw_X4_passWord_X4_isWord : GoodIn W_X4_passWord W_X4_isWord := fun w h => ⟨List.mem_cons_of_mem _ (List.mem_append_right _ (List.mem_append_left _ (h))), (wI_X4_isWord w h).2⟩
theorem gc_X4_passWord_61_X4_isWord : GoodIn W_X4_passWord (wsV RX4 61 RX4 yX4_isWord W_X4_isWord) := goodIn_app (goodIn_sub (List.forall_mem_cons.mpr ⟨List.mem_cons_of_mem _ (List.mem_append_left _ (List.mem_of_getElem? (i := 0) rfl)), List.forall_mem_cons.mpr ⟨List.mem_cons_of_mem _ (List.mem_append_left _ (List.mem_of_getElem? (i := 1) rfl)), List.forall_mem_cons.mpr ⟨List.mem_cons_of_mem _ (List.mem_append_left _ (List.mem_of_getElem? (i := 2) rfl)), List.forall_mem_cons.mpr ⟨List.mem_cons_of_mem _ (List.mem_append_left _ (List.mem_of_getElem? (i := 3) rfl)), fun _ h => absurd h List.not_mem_nil⟩⟩⟩⟩) (by decide +kernel)) gw_X4_passWord_X4_isWord
theorem gw_X4_passWord_X4_failed : GoodIn W_X4_passWord W_X4_failed := fun w h => ⟨List.mem_cons_of_mem _ (List.mem_append_right _ (List.mem_append_right _ (List.mem_append_left _ (h)))), (wI_X4_failed w h).2⟩
theorem gc_X4_passWord_78_X4_failed : GoodIn W_X4_passWord (wsV RX4 78 RX4 yX4_failed W_X4_failed) := goodIn_app (goodIn_sub (List.forall_mem_cons.mpr ⟨List.mem_cons_of_mem _ (List.mem_append_left _ (List.mem_of_getElem? (i := 4) rfl)), List.forall_mem_cons.mpr ⟨List.mem_cons_of_mem _ (List.mem_append_left _ (List.mem_of_getElem? (i := 5) rfl)), List.forall_mem_cons.mpr ⟨List.mem_cons_of_mem _ (List.mem_append_left _ (List.mem_of_getElem? (i := 6) rfl)), List.forall_mem_cons.mpr ⟨List.mem_cons_of_mem _ (List.mem_append_left _ (List.mem_of_getElem? (i := 3) rfl)), fun _ h => absurd h List.not_mem_nil⟩⟩⟩⟩) (by decide +kernel)) gw_X4_passWord_X4_failed
theorem gw_X4_readCell_X4_cellKind : GoodIn W_X4_readCell W_X4_cellKind := fun w h => ⟨List.mem_cons_of_mem _ (List.mem_append_right _ (List.mem_append_right _ (List.mem_append_right _ (List.mem_append_right _ (List.mem_append_right _ (h)))))), (wI_X4_cellKind w h).2⟩
theorem gc_X4_readCell_106_X4_cellKind : GoodIn W_X4_readCell (wsV RX4 106 RX4 yX4_cellKind W_X4_cellKind) := goodIn_app (goodIn_sub (List.forall_mem_cons.mpr ⟨List.mem_cons_of_mem _ (List.mem_append_left _ (List.mem_of_getElem? (i := 9) rfl)), List.forall_mem_cons.mpr ⟨List.mem_cons_of_mem _ (List.mem_append_left _ (List.mem_of_getElem? (i := 10) rfl)), List.forall_mem_cons.mpr ⟨List.mem_cons_of_mem _ (List.mem_append_left _ (List.mem_of_getElem? (i := 11) rfl)), List.forall_mem_cons.mpr ⟨List.mem_cons_of_mem _ (List.mem_append_left _ (List.mem_of_getElem? (i := 5) rfl)), fun _ h => absurd h List.not_mem_nil⟩⟩⟩⟩) (by decide +kernel)) gw_X4_readCell_X4_cellKind
theorem gw_X4_readCell_X4_next : GoodIn W_X4_readCell W_X4_next := fun w h => ⟨List.mem_cons_of_mem _ (List.mem_append_right _ (List.mem_append_right _ (List.mem_append_right _ (List.mem_append_right _ (List.mem_append_left _ (h)))))), (wI_X4_next w h).2⟩
theorem gc_X4_readCell_46_X4_next : GoodIn W_X4_readCell (wsV RX4 46 RX4 yX4_next W_X4_next) := goodIn_app (goodIn_sub (List.forall_mem_cons.mpr ⟨List.mem_cons_of_mem _ (List.mem_append_left _ (List.mem_of_getElem? (i := 6) rfl)), List.forall_mem_cons.mpr ⟨List.mem_cons_of_mem _ (List.mem_append_left _ (List.mem_of_getElem? (i := 7) rfl)), List.forall_mem_cons.mpr ⟨List.mem_cons_of_mem _ (List.mem_append_left _ (List.mem_of_getElem? (i := 8) rfl)), List.forall_mem_cons.mpr ⟨List.mem_cons_of_mem _ (List.mem_append_left _ (List.mem_of_getElem? (i := 5) rfl)), fun _ h => absurd h List.not_mem_nil⟩⟩⟩⟩) (by decide +kernel)) gw_X4_readCell_X4_next
theorem gw_X4_readCell_X4_failed : GoodIn W_X4_readCell W_X4_failed := fun w h => ⟨List.mem_cons_of_mem _ (List.mem_append_right _ (List.mem_append_right _ (List.mem_append_right _ (List.mem_append_left _ (h))))), (wI_X4_failed w h).2⟩
theorem gc_X4_readCell_78_X4_failed : GoodIn W_X4_readCell (wsV RX4 78 RX4 yX4_failed W_X4_failed) := goodIn_app (goodIn_sub (List.forall_mem_cons.mpr ⟨List.mem_cons_of_mem _ (List.mem_append_left _ (List.mem_of_getElem? (i := 2) rfl)), List.forall_mem_cons.mpr ⟨List.mem_cons_of_mem _ (List.mem_append_left _ (List.mem_of_getElem? (i := 3) rfl)), List.forall_mem_cons.mpr ⟨List.mem_cons_of_mem _ (List.mem_append_left _ (List.mem_of_getElem? (i := 4) rfl)), List.forall_mem_cons.mpr ⟨List.mem_cons_of_mem _ (List.mem_append_left _ (List.mem_of_getElem? (i := 5) rfl)), fun _ h => absurd h List.not_mem_nil⟩⟩⟩⟩) (by decide +kernel)) gw_X4_readCell_X4_failed
theorem gw_X4_readHead_X4_passWord : GoodIn W_X4_readHead W_X4_passWord := fun w h => ⟨List.mem_cons_of_mem _ (List.mem_append_right _ (List.mem_append_right _ (List.mem_append_right _ (List.mem_append_left _ (h))))), (wI_X4_passWord w h).2⟩
theorem gc_X4_readHead_84_X4_passWord : GoodIn W_X4_readHead (wsV RX4 84 RX4 yX4_passWord W_X4_passWord) := goodIn_app (goodIn_sub (List.forall_mem_cons.mpr ⟨List.mem_cons_of_mem _ (List.mem_append_left _ (List.mem_of_getElem? (i := 0) rfl)), List.forall_mem_cons.mpr ⟨List.mem_cons_of_mem _ (List.mem_append_left _ (List.mem_of_getElem? (i := 1) rfl)), List.forall_mem_cons.mpr ⟨List.mem_cons_of_mem _ (List.mem_append_left _ (List.mem_of_getElem? (i := 2) rfl)), List.forall_mem_cons.mpr ⟨List.mem_cons_of_mem _ (List.mem_append_left _ (List.mem_of_getElem? (i := 3) rfl)), fun _ h => absurd h List.not_mem_nil⟩⟩⟩⟩) (by decide +kernel)) gw_X4_readHead_X4_passWord
theorem gw_X4_readHead_X4_passNumber : GoodIn W_X4_readHead W_X4_passNumber := fun w h => ⟨List.mem_cons_of_mem _ (List.mem_append_right _ (List.mem_append_right _ (List.mem_append_right _ (List.mem_append_right _ (h))))), (wI_X4_passNumber w h).2⟩
theorem gc_X4_readHead_89_X4_passNumber : GoodIn W_X4_readHead (wsV RX4 89 RX4 yX4_passNumber W_X4_passNumber) := goodIn_app (goodIn_sub (List.forall_mem_cons.mpr ⟨List.mem_cons_of_mem _ (List.mem_append_left _ (List.mem_of_getElem? (i := 4) rfl)), List.forall_mem_cons.mpr ⟨List.mem_cons_of_mem _ (List.mem_append_left _ (List.mem_of_getElem? (i := 5) rfl)), List.forall_mem_cons.mpr ⟨List.mem_cons_of_mem _ (List.mem_append_left _ (List.mem_of_getElem? (i := 6) rfl)), List.forall_mem_cons.mpr ⟨List.mem_cons_of_mem _ (List.mem_append_left _ (List.mem_of_getElem? (i := 3) rfl)), fun _ h => absurd h List.not_mem_nil⟩⟩⟩⟩) (by decide +kernel)) gw_X4_readHead_X4_passNumber
theorem gw_X4_readLine_X4_next : GoodIn W_X4_readLine W_X4_next := fun w h => ⟨List.mem_cons_of_mem _ (List.mem_append_right _ (List.mem_append_right _ (List.mem_append_right _ (List.mem_append_right _ (List.mem_append_right _ (List.mem_append_right _ (List.mem_append_right _ (List.mem_append_right _ (List.mem_append_right _ (h)))))))))), (wI_X4_next w h).2⟩
theorem gc_X4_readLine_46_X4_next : GoodIn W_X4_readLine (wsV RX4 46 RX4 yX4_next W_X4_next) := goodIn_app (goodIn_sub (List.forall_mem_cons.mpr ⟨List.mem_cons_of_mem _ (List.mem_append_left _ (List.mem_of_getElem? (i := 22) rfl)), List.forall_mem_cons.mpr ⟨List.mem_cons_of_mem _ (List.mem_append_left _ (List.mem_of_getElem? (i := 23) rfl)), List.forall_mem_cons.mpr ⟨List.mem_cons_of_mem _ (List.mem_append_left _ (List.mem_of_getElem? (i := 24) rfl)), List.forall_mem_cons.mpr ⟨List.mem_cons_of_mem _ (List.mem_append_left _ (List.mem_of_getElem? (i := 5) rfl)), fun _ h => absurd h List.not_mem_nil⟩⟩⟩⟩) (by decide +kernel)) gw_X4_readLine_X4_next
theorem gw_X4_readLine_X4_readHead : GoodIn W_X4_readLine W_X4_readHead := fun w h => ⟨List.mem_cons_of_mem _ (List.mem_append_right _ (List.mem_append_right _ (List.mem_append_right _ (List.mem_append_left _ (h))))), (wI_X4_readHead w h).2⟩
theorem gc_X4_readLine_56_X4_readHead : GoodIn W_X4_readLine (wsV RX4 56 RX4 yX4_readHead W_X4_readHead) := goodIn_app (goodIn_sub (List.forall_mem_cons.mpr ⟨List.mem_cons_of_mem _ (List.mem_append_left _ (List.mem_of_getElem? (i := 2) rfl)), List.forall_mem_cons.mpr ⟨List.mem_cons_of_mem _ (List.mem_append_left _ (List.mem_of_getElem? (i := 3) rfl)), List.forall_mem_cons.mpr ⟨List.mem_cons_of_mem _ (List.mem_append_left _ (List.mem_of_getElem? (i := 4) rfl)), List.forall_mem_cons.mpr ⟨List.mem_cons_of_mem _ (List.mem_append_left _ (List.mem_of_getElem? (i := 5) rfl)), fun _ h => absurd h List.not_mem_nil⟩⟩⟩⟩) (by decide +kernel)) gw_X4_readLine_X4_readHead
theorem gw_X4_readLine_X4_isWord : GoodIn W_X4_readLine W_X4_isWord := fun w h => ⟨List.mem_cons_of_mem _ (List.mem_append_right _ (List.mem_append_right _ (List.mem_append_right _ (List.mem_append_right _ (List.mem_append_left _ (h)))))), (wI_X4_isWord w h).2⟩
theorem gc_X4_readLine_61_X4_isWord : GoodIn W_X4_readLine (wsV RX4 61 RX4 yX4_isWord W_X4_isWord) := goodIn_app (goodIn_sub (List.forall_mem_cons.mpr ⟨List.mem_cons_of_mem _ (List.mem_append_left _ (List.mem_of_getElem? (i := 6) rfl)), List.forall_mem_cons.mpr ⟨List.mem_cons_of_mem _ (List.mem_append_left _ (List.mem_of_getElem? (i := 7) rfl)), List.forall_mem_cons.mpr ⟨List.mem_cons_of_mem _ (List.mem_append_left _ (List.mem_of_getElem? (i := 8) rfl)), List.forall_mem_cons.mpr ⟨List.mem_cons_of_mem _ (List.mem_append_left _ (List.mem_of_getElem? (i := 5) rfl)), fun _ h => absurd h List.not_mem_nil⟩⟩⟩⟩) (by decide +kernel)) gw_X4_readLine_X4_isWord
theorem gw_X4_readLine_X4_readCell : GoodIn W_X4_readLine W_X4_readCell := fun w h => ⟨List.mem_cons_of_mem _ (List.mem_append_right _ (List.mem_append_right _ (List.mem_append_right _ (List.mem_append_right _ (List.mem_append_right _ (List.mem_append_left _ (h))))))), (wI_X4_readCell w h).2⟩
theorem gc_X4_readLine_65_X4_readCell : GoodIn W_X4_readLine (wsV RX4 65 RX4 yX4_readCell W_X4_readCell) := goodIn_app (goodIn_sub (List.forall_mem_cons.mpr ⟨List.mem_cons_of_mem _ (List.mem_append_left _ (List.mem_of_getElem? (i := 9) rfl)), List.forall_mem_cons.mpr ⟨List.mem_cons_of_mem _ (List.mem_append_left _ (List.mem_of_getElem? (i := 10) rfl)), List.forall_mem_cons.mpr ⟨List.mem_cons_of_mem _ (List.mem_append_left _ (List.mem_of_getElem? (i := 11) rfl)), List.forall_mem_cons.mpr ⟨List.mem_cons_of_mem _ (List.mem_append_left _ (List.mem_of_getElem? (i := 5) rfl)), fun _ h => absurd h List.not_mem_nil⟩⟩⟩⟩) (by decide +kernel)) gw_X4_readLine_X4_readCell
theorem gw_X4_readLine_X4_readRule : GoodIn W_X4_readLine W_X4_readRule := fun w h => ⟨List.mem_cons_of_mem _ (List.mem_append_right _ (List.mem_append_right _ (List.mem_append_right _ (List.mem_append_right _ (List.mem_append_right _ (List.mem_append_right _ (List.mem_append_left _ (h)))))))), (wI_X4_readRule w h).2⟩
theorem gc_X4_readLine_70_X4_readRule : GoodIn W_X4_readLine (wsV RX4 70 RX4 yX4_readRule W_X4_readRule) := goodIn_app (goodIn_sub (List.forall_mem_cons.mpr ⟨List.mem_cons_of_mem _ (List.mem_append_left _ (List.mem_of_getElem? (i := 12) rfl)), List.forall_mem_cons.mpr ⟨List.mem_cons_of_mem _ (List.mem_append_left _ (List.mem_of_getElem? (i := 13) rfl)), List.forall_mem_cons.mpr ⟨List.mem_cons_of_mem _ (List.mem_append_left _ (List.mem_of_getElem? (i := 14) rfl)), List.forall_mem_cons.mpr ⟨List.mem_cons_of_mem _ (List.mem_append_left _ (List.mem_of_getElem? (i := 5) rfl)), fun _ h => absurd h List.not_mem_nil⟩⟩⟩⟩) (by decide +kernel)) gw_X4_readLine_X4_readRule
theorem gw_X4_readLine_X4_readOp : GoodIn W_X4_readLine W_X4_readOp := fun w h => ⟨List.mem_cons_of_mem _ (List.mem_append_right _ (List.mem_append_right _ (List.mem_append_right _ (List.mem_append_right _ (List.mem_append_right _ (List.mem_append_right _ (List.mem_append_right _ (List.mem_append_left _ (h))))))))), (wI_X4_readOp w h).2⟩
theorem gc_X4_readLine_75_X4_readOp : GoodIn W_X4_readLine (wsV RX4 75 RX4 yX4_readOp W_X4_readOp) := goodIn_app (goodIn_sub (List.forall_mem_cons.mpr ⟨List.mem_cons_of_mem _ (List.mem_append_left _ (List.mem_of_getElem? (i := 15) rfl)), List.forall_mem_cons.mpr ⟨List.mem_cons_of_mem _ (List.mem_append_left _ (List.mem_of_getElem? (i := 16) rfl)), List.forall_mem_cons.mpr ⟨List.mem_cons_of_mem _ (List.mem_append_left _ (List.mem_of_getElem? (i := 17) rfl)), List.forall_mem_cons.mpr ⟨List.mem_cons_of_mem _ (List.mem_append_left _ (List.mem_of_getElem? (i := 5) rfl)), fun _ h => absurd h List.not_mem_nil⟩⟩⟩⟩) (by decide +kernel)) gw_X4_readLine_X4_readOp
theorem gw_X4_readLine_X4_failed : GoodIn W_X4_readLine W_X4_failed := fun w h => ⟨List.mem_cons_of_mem _ (List.mem_append_right _ (List.mem_append_right _ (List.mem_append_right _ (List.mem_append_right _ (List.mem_append_right _ (List.mem_append_right _ (List.mem_append_right _ (List.mem_append_right _ (List.mem_append_left _ (h)))))))))), (wI_X4_failed w h).2⟩
theorem gc_X4_readLine_78_X4_failed : GoodIn W_X4_readLine (wsV RX4 78 RX4 yX4_failed W_X4_failed) := goodIn_app (goodIn_sub (List.forall_mem_cons.mpr ⟨List.mem_cons_of_mem _ (List.mem_append_left _ (List.mem_of_getElem? (i := 18) rfl)), List.forall_mem_cons.mpr ⟨List.mem_cons_of_mem _ (List.mem_append_left _ (List.mem_of_getElem? (i := 19) rfl)), List.forall_mem_cons.mpr ⟨List.mem_cons_of_mem _ (List.mem_append_left _ (List.mem_of_getElem? (i := 20) rfl)), List.forall_mem_cons.mpr ⟨List.mem_cons_of_mem _ (List.mem_append_left _ (List.mem_of_getElem? (i := 5) rfl)), fun _ h => absurd h List.not_mem_nil⟩⟩⟩⟩) (by decide +kernel)) gw_X4_readLine_X4_failed
theorem gw_X4_readOp_X4_opShape : GoodIn W_X4_readOp W_X4_opShape := fun w h => ⟨List.mem_cons_of_mem _ (List.mem_append_right _ (List.mem_append_right _ (List.mem_append_right _ (List.mem_append_right _ (List.mem_append_right _ (List.mem_append_right _ (List.mem_append_left _ (h)))))))), (wI_X4_opShape w h).2⟩
theorem gc_X4_readOp_137_X4_opShape : GoodIn W_X4_readOp (va_wsS RX4 137 yX4_opShape W_X4_opShape) := goodIn_app (goodIn_sub (List.forall_mem_cons.mpr ⟨List.mem_cons_of_mem _ (List.mem_append_left _ (List.mem_of_getElem? (i := 12) rfl)), List.forall_mem_cons.mpr ⟨List.mem_cons_of_mem _ (List.mem_append_left _ (List.mem_of_getElem? (i := 13) rfl)), List.forall_mem_cons.mpr ⟨List.mem_cons_of_mem _ (List.mem_append_left _ (List.mem_of_getElem? (i := 5) rfl)), fun _ h => absurd h List.not_mem_nil⟩⟩⟩) (by decide +kernel)) gw_X4_readOp_X4_opShape
theorem gw_X4_readOp_X4_passNumbers : GoodIn W_X4_readOp W_X4_passNumbers := fun w h => ⟨List.mem_cons_of_mem _ (List.mem_append_right _ (List.mem_append_right _ (List.mem_append_right _ (List.mem_append_right _ (List.mem_append_right _ (List.mem_append_right _ (List.mem_append_right _ (h)))))))), (wI_X4_passNumbers w h).2⟩
theorem gc_X4_readOp_127_X4_passNumbers : GoodIn W_X4_readOp (wsV RX4 127 RX4 yX4_passNumbers W_X4_passNumbers) := goodIn_app (goodIn_sub (List.forall_mem_cons.mpr ⟨List.mem_cons_of_mem _ (List.mem_append_left _ (List.mem_of_getElem? (i := 15) rfl)), List.forall_mem_cons.mpr ⟨List.mem_cons_of_mem _ (List.mem_append_left _ (List.mem_of_getElem? (i := 16) rfl)), List.forall_mem_cons.mpr ⟨List.mem_cons_of_mem _ (List.mem_append_left _ (List.mem_of_getElem? (i := 17) rfl)), List.forall_mem_cons.mpr ⟨List.mem_cons_of_mem _ (List.mem_append_left _ (List.mem_of_getElem? (i := 5) rfl)), fun _ h => absurd h List.not_mem_nil⟩⟩⟩⟩) (by decide +kernel)) gw_X4_readOp_X4_passNumbers
theorem gw_X4_readOp_X4_opKind : GoodIn W_X4_readOp W_X4_opKind := fun w h => ⟨List.mem_cons_of_mem _ (List.mem_append_right _ (List.mem_append_right _ (List.mem_append_right _ (List.mem_append_right _ (List.mem_append_right _ (List.mem_append_left _ (h))))))), (wI_X4_opKind w h).2⟩
theorem gc_X4_readOp_134_X4_opKind : GoodIn W_X4_readOp (wsV RX4 134 RX4 yX4_opKind W_X4_opKind) := goodIn_app (goodIn_sub (List.forall_mem_cons.mpr ⟨List.mem_cons_of_mem _ (List.mem_append_left _ (List.mem_of_getElem? (i := 9) rfl)), List.forall_mem_cons.mpr ⟨List.mem_cons_of_mem _ (List.mem_append_left _ (List.mem_of_getElem? (i := 10) rfl)), List.forall_mem_cons.mpr ⟨List.mem_cons_of_mem _ (List.mem_append_left _ (List.mem_of_getElem? (i := 11) rfl)), List.forall_mem_cons.mpr ⟨List.mem_cons_of_mem _ (List.mem_append_left _ (List.mem_of_getElem? (i := 5) rfl)), fun _ h => absurd h List.not_mem_nil⟩⟩⟩⟩) (by decide +kernel)) gw_X4_readOp_X4_opKind
theorem gw_X4_readOp_X4_next : GoodIn W_X4_readOp W_X4_next := fun w h => ⟨List.mem_cons_of_mem _ (List.mem_append_right _ (List.mem_append_right _ (List.mem_append_right _ (List.mem_append_right _ (List.mem_append_left _ (h)))))), (wI_X4_next w h).2⟩
theorem gc_X4_readOp_46_X4_next : GoodIn W_X4_readOp (wsV RX4 46 RX4 yX4_next W_X4_next) := goodIn_app (goodIn_sub (List.forall_mem_cons.mpr ⟨List.mem_cons_of_mem _ (List.mem_append_left _ (List.mem_of_getElem? (i := 6) rfl)), List.forall_mem_cons.mpr ⟨List.mem_cons_of_mem _ (List.mem_append_left _ (List.mem_of_getElem? (i := 7) rfl)), List.forall_mem_cons.mpr ⟨List.mem_cons_of_mem _ (List.mem_append_left _ (List.mem_of_getElem? (i := 8) rfl)), List.forall_mem_cons.mpr ⟨List.mem_cons_of_mem _ (List.mem_append_left _ (List.mem_of_getElem? (i := 5) rfl)), fun _ h => absurd h List.not_mem_nil⟩⟩⟩⟩) (by decide +kernel)) gw_X4_readOp_X4_next
theorem gw_X4_readOp_X4_failed : GoodIn W_X4_readOp W_X4_failed := fun w h => ⟨List.mem_cons_of_mem _ (List.mem_append_right _ (List.mem_append_right _ (List.mem_append_right _ (List.mem_append_left _ (h))))), (wI_X4_failed w h).2⟩
theorem gc_X4_readOp_78_X4_failed : GoodIn W_X4_readOp (wsV RX4 78 RX4 yX4_failed W_X4_failed) := goodIn_app (goodIn_sub (List.forall_mem_cons.mpr ⟨List.mem_cons_of_mem _ (List.mem_append_left _ (List.mem_of_getElem? (i := 2) rfl)), List.forall_mem_cons.mpr ⟨List.mem_cons_of_mem _ (List.mem_append_left _ (List.mem_of_getElem? (i := 3) rfl)), List.forall_mem_cons.mpr ⟨List.mem_cons_of_mem _ (List.mem_append_left _ (List.mem_of_getElem? (i := 4) rfl)), List.forall_mem_cons.mpr ⟨List.mem_cons_of_mem _ (List.mem_append_left _ (List.mem_of_getElem? (i := 5) rfl)), fun _ h => absurd h List.not_mem_nil⟩⟩⟩⟩) (by decide +kernel)) gw_X4_readOp_X4_failed
theorem gw_X4_readRule_X4_ruleShape : GoodIn W_X4_readRule W_X4_ruleShape := fun w h => ⟨List.mem_cons_of_mem _ (List.mem_append_right _ (List.mem_append_right _ (List.mem_append_right _ (List.mem_append_right _ (List.mem_append_right _ (List.mem_append_right _ (List.mem_append_left _ (h)))))))), (wI_X4_ruleShape w h).2⟩
theorem gc_X4_readRule_120_X4_ruleShape : GoodIn W_X4_readRule (va_wsS RX4 120 yX4_ruleShape W_X4_ruleShape) := goodIn_app (goodIn_sub (List.forall_mem_cons.mpr ⟨List.mem_cons_of_mem _ (List.mem_append_left _ (List.mem_of_getElem? (i := 12) rfl)), List.forall_mem_cons.mpr ⟨List.mem_cons_of_mem _ (List.mem_append_left _ (List.mem_of_getElem? (i := 13) rfl)), List.forall_mem_cons.mpr ⟨List.mem_cons_of_mem _ (List.mem_append_left _ (List.mem_of_getElem? (i := 5) rfl)), fun _ h => absurd h List.not_mem_nil⟩⟩⟩) (by decide +kernel)) gw_X4_readRule_X4_ruleShape
theorem gw_X4_readRule_X4_ruleKind : GoodIn W_X4_readRule W_X4_ruleKind := fun w h => ⟨List.mem_cons_of_mem _ (List.mem_append_right _ (List.mem_append_right _ (List.mem_append_right _ (List.mem_append_right _ (List.mem_append_right _ (List.mem_append_left _ (h))))))), (wI_X4_ruleKind w h).2⟩
theorem gc_X4_readRule_117_X4_ruleKind : GoodIn W_X4_readRule (wsV RX4 117 RX4 yX4_ruleKind W_X4_ruleKind) := goodIn_app (goodIn_sub (List.forall_mem_cons.mpr ⟨List.mem_cons_of_mem _ (List.mem_append_left _ (List.mem_of_getElem? (i := 9) rfl)), List.forall_mem_cons.mpr ⟨List.mem_cons_of_mem _ (List.mem_append_left _ (List.mem_of_getElem? (i := 10) rfl)), List.forall_mem_cons.mpr ⟨List.mem_cons_of_mem _ (List.mem_append_left _ (List.mem_of_getElem? (i := 11) rfl)), List.forall_mem_cons.mpr ⟨List.mem_cons_of_mem _ (List.mem_append_left _ (List.mem_of_getElem? (i := 5) rfl)), fun _ h => absurd h List.not_mem_nil⟩⟩⟩⟩) (by decide +kernel)) gw_X4_readRule_X4_ruleKind
theorem gw_X4_readRule_X4_passNumbers : GoodIn W_X4_readRule W_X4_passNumbers := fun w h => ⟨List.mem_cons_of_mem _ (List.mem_append_right _ (List.mem_append_right _ (List.mem_append_right _ (List.mem_append_right _ (List.mem_append_right _ (List.mem_append_right _ (List.mem_append_right _ (h)))))))), (wI_X4_passNumbers w h).2⟩
theorem gc_X4_readRule_127_X4_passNumbers : GoodIn W_X4_readRule (wsV RX4 127 RX4 yX4_passNumbers W_X4_passNumbers) := goodIn_app (goodIn_sub (List.forall_mem_cons.mpr ⟨List.mem_cons_of_mem _ (List.mem_append_left _ (List.mem_of_getElem? (i := 15) rfl)), List.forall_mem_cons.mpr ⟨List.mem_cons_of_mem _ (List.mem_append_left _ (List.mem_of_getElem? (i := 16) rfl)), List.forall_mem_cons.mpr ⟨List.mem_cons_of_mem _ (List.mem_append_left _ (List.mem_of_getElem? (i := 17) rfl)), List.forall_mem_cons.mpr ⟨List.mem_cons_of_mem _ (List.mem_append_left _ (List.mem_of_getElem? (i := 5) rfl)), fun _ h => absurd h List.not_mem_nil⟩⟩⟩⟩) (by decide +kernel)) gw_X4_readRule_X4_passNumbers
theorem gw_X4_readRule_X4_next : GoodIn W_X4_readRule W_X4_next := fun w h => ⟨List.mem_cons_of_mem _ (List.mem_append_right _ (List.mem_append_right _ (List.mem_append_right _ (List.mem_append_right _ (List.mem_append_left _ (h)))))), (wI_X4_next w h).2⟩
theorem gc_X4_readRule_46_X4_next : GoodIn W_X4_readRule (wsV RX4 46 RX4 yX4_next W_X4_next) := goodIn_app (goodIn_sub (List.forall_mem_cons.mpr ⟨List.mem_cons_of_mem _ (List.mem_append_left _ (List.mem_of_getElem? (i := 6) rfl)), List.forall_mem_cons.mpr ⟨List.mem_cons_of_mem _ (List.mem_append_left _ (List.mem_of_getElem? (i := 7) rfl)), List.forall_mem_cons.mpr ⟨List.mem_cons_of_mem _ (List.mem_append_left _ (List.mem_of_getElem? (i := 8) rfl)), List.forall_mem_cons.mpr ⟨List.mem_cons_of_mem _ (List.mem_append_left _ (List.mem_of_getElem? (i := 5) rfl)), fun _ h => absurd h List.not_mem_nil⟩⟩⟩⟩) (by decide +kernel)) gw_X4_readRule_X4_next
theorem gw_X4_readRule_X4_failed : GoodIn W_X4_readRule W_X4_failed := fun w h => ⟨List.mem_cons_of_mem _ (List.mem_append_right _ (List.mem_append_right _ (List.mem_append_right _ (List.mem_append_left _ (h))))), (wI_X4_failed w h).2⟩
theorem gc_X4_readRule_78_X4_failed : GoodIn W_X4_readRule (wsV RX4 78 RX4 yX4_failed W_X4_failed) := goodIn_app (goodIn_sub (List.forall_mem_cons.mpr ⟨List.mem_cons_of_mem _ (List.mem_append_left _ (List.mem_of_getElem? (i := 2) rfl)), List.forall_mem_cons.mpr ⟨List.mem_cons_of_mem _ (List.mem_append_left _ (List.mem_of_getElem? (i := 3) rfl)), List.forall_mem_cons.mpr ⟨List.mem_cons_of_mem _ (List.mem_append_left _ (List.mem_of_getElem? (i := 4) rfl)), List.forall_mem_cons.mpr ⟨List.mem_cons_of_mem _ (List.mem_append_left _ (List.mem_of_getElem? (i := 5) rfl)), fun _ h => absurd h List.not_mem_nil⟩⟩⟩⟩) (by decide +kernel)) gw_X4_readRule_X4_failed
theorem gw_X4_readTape_X0_clear : GoodIn W_X4_readTape W_X0_clear := fun w h => ⟨List.mem_cons_of_mem _ (List.mem_append_right _ (List.mem_append_right _ (List.mem_append_left _ (h)))), (wI_X0_clear w h).2⟩
theorem gc_X4_readTape_41_X0_clear : GoodIn W_X4_readTape (wsV RX4 41 RX0 yX0_clear W_X0_clear) := goodIn_app (goodIn_sub (List.forall_mem_cons.mpr ⟨List.mem_cons_of_mem _ (List.mem_append_left _ (List.mem_of_getElem? (i := 1) rfl)), List.forall_mem_cons.mpr ⟨List.mem_cons_of_mem _ (List.mem_append_left _ (List.mem_of_getElem? (i := 2) rfl)), List.forall_mem_cons.mpr ⟨List.mem_cons_of_mem _ (List.mem_append_left _ (List.mem_of_getElem? (i := 3) rfl)), List.forall_mem_cons.mpr ⟨List.mem_cons_of_mem _ (List.mem_append_left _ (List.mem_of_getElem? (i := 4) rfl)), fun _ h => absurd h List.not_mem_nil⟩⟩⟩⟩) (by decide +kernel)) gw_X4_readTape_X0_clear
theorem gw_X4_readTape_X4_next : GoodIn W_X4_readTape W_X4_next := fun w h => ⟨List.mem_cons_of_mem _ (List.mem_append_right _ (List.mem_append_right _ (List.mem_append_right _ (List.mem_append_left _ (h))))), (wI_X4_next w h).2⟩
theorem gc_X4_readTape_46_X4_next : GoodIn W_X4_readTape (wsV RX4 46 RX4 yX4_next W_X4_next) := goodIn_app (goodIn_sub (List.forall_mem_cons.mpr ⟨List.mem_cons_of_mem _ (List.mem_append_left _ (List.mem_of_getElem? (i := 8) rfl)), List.forall_mem_cons.mpr ⟨List.mem_cons_of_mem _ (List.mem_append_left _ (List.mem_of_getElem? (i := 9) rfl)), List.forall_mem_cons.mpr ⟨List.mem_cons_of_mem _ (List.mem_append_left _ (List.mem_of_getElem? (i := 10) rfl)), List.forall_mem_cons.mpr ⟨List.mem_cons_of_mem _ (List.mem_append_left _ (List.mem_of_getElem? (i := 11) rfl)), fun _ h => absurd h List.not_mem_nil⟩⟩⟩⟩) (by decide +kernel)) gw_X4_readTape_X4_next
theorem gw_X4_readTape_X4_readLine : GoodIn W_X4_readTape W_X4_readLine := fun w h => ⟨List.mem_cons_of_mem _ (List.mem_append_right _ (List.mem_append_right _ (List.mem_append_right _ (List.mem_append_right _ (h))))), (wI_X4_readLine w h).2⟩
theorem gc_X4_readTape_49_X4_readLine : GoodIn W_X4_readTape (wsV RX4 49 RX4 yX4_readLine W_X4_readLine) := goodIn_app (goodIn_sub (List.forall_mem_cons.mpr ⟨List.mem_cons_of_mem _ (List.mem_append_left _ (List.mem_of_getElem? (i := 13) rfl)), List.forall_mem_cons.mpr ⟨List.mem_cons_of_mem _ (List.mem_append_left _ (List.mem_of_getElem? (i := 14) rfl)), List.forall_mem_cons.mpr ⟨List.mem_cons_of_mem _ (List.mem_append_left _ (List.mem_of_getElem? (i := 15) rfl)), List.forall_mem_cons.mpr ⟨List.mem_cons_of_mem _ (List.mem_append_left _ (List.mem_of_getElem? (i := 11) rfl)), fun _ h => absurd h List.not_mem_nil⟩⟩⟩⟩) (by decide +kernel)) gw_X4_readTape_X4_readLine
theorem gw_X4_ruleKind_X4_isWord : GoodIn W_X4_ruleKind W_X4_isWord := fun w h => ⟨List.mem_cons_of_mem _ (List.mem_append_right _ (h)), (wI_X4_isWord w h).2⟩
theorem gc_X4_ruleKind_61_X4_isWord : GoodIn W_X4_ruleKind (wsV RX4 61 RX4 yX4_isWord W_X4_isWord) := goodIn_app (goodIn_sub (List.forall_mem_cons.mpr ⟨List.mem_cons_of_mem _ (List.mem_append_left _ (List.mem_of_getElem? (i := 0) rfl)), List.forall_mem_cons.mpr ⟨List.mem_cons_of_mem _ (List.mem_append_left _ (List.mem_of_getElem? (i := 1) rfl)), List.forall_mem_cons.mpr ⟨List.mem_cons_of_mem _ (List.mem_append_left _ (List.mem_of_getElem? (i := 2) rfl)), List.forall_mem_cons.mpr ⟨List.mem_cons_of_mem _ (List.mem_append_left _ (List.mem_of_getElem? (i := 3) rfl)), fun _ h => absurd h List.not_mem_nil⟩⟩⟩⟩) (by decide +kernel)) gw_X4_ruleKind_X4_isWord
