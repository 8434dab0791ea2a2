theorem dX4_codeBy_0 : decode cX4_codeBy 0 = .ok (.aload_n 0, 1) := by decide +kernel
theorem dX4_codeBy_1 : decode cX4_codeBy 1 = .ok (.lload_n 1, 1) := by decide +kernel
theorem dX4_codeBy_2 : decode cX4_codeBy 2 = .ok (.lload_n 3, 1) := by decide +kernel
theorem dX4_codeBy_3 : decode cX4_codeBy 3 = .ok (.bipush 54, 2) := by decide +kernel
theorem dX4_codeBy_5 : decode cX4_codeBy 5 = .ok (.invokevirtual 220, 3) := by decide +kernel
theorem dX4_codeBy_8 : decode cX4_codeBy 8 = .ok (.iconst 0, 1) := by decide +kernel
theorem dX4_codeBy_9 : decode cX4_codeBy 9 = .ok (.istore 5, 2) := by decide +kernel
theorem dX4_codeBy_11 : decode cX4_codeBy 11 = .ok (.iload 5, 2) := by decide +kernel
theorem dX4_codeBy_13 : decode cX4_codeBy 13 = .ok (.sipush 172, 3) := by decide +kernel
theorem dX4_codeBy_16 : decode cX4_codeBy 16 = .ok (.if_icmp .ge 26, 3) := by decide +kernel
theorem dX4_codeBy_19 : decode cX4_codeBy 19 = .ok (.aload_n 0, 1) := by decide +kernel
theorem dX4_codeBy_20 : decode cX4_codeBy 20 = .ok (.getfield 16, 3) := by decide +kernel
theorem dX4_codeBy_23 : decode cX4_codeBy 23 = .ok (.bipush 64, 2) := by decide +kernel
theorem dX4_codeBy_25 : decode cX4_codeBy 25 = .ok (.iload 5, 2) := by decide +kernel
theorem dX4_codeBy_27 : decode cX4_codeBy 27 = .ok (.iadd, 1) := by decide +kernel
theorem dX4_codeBy_28 : decode cX4_codeBy 28 = .ok (.aload_n 0, 1) := by decide +kernel
theorem dX4_codeBy_29 : decode cX4_codeBy 29 = .ok (.getfield 38, 3) := by decide +kernel
theorem dX4_codeBy_32 : decode cX4_codeBy 32 = .ok (.iload 5, 2) := by decide +kernel
theorem dX4_codeBy_34 : decode cX4_codeBy 34 = .ok (.baload, 1) := by decide +kernel
theorem dX4_codeBy_35 : decode cX4_codeBy 35 = .ok (.bastore, 1) := by decide +kernel
theorem dX4_codeBy_36 : decode cX4_codeBy 36 = .ok (.iinc 5 1, 3) := by decide +kernel
theorem dX4_codeBy_39 : decode cX4_codeBy 39 = .ok (.goto (-28), 3) := by decide +kernel
theorem dX4_codeBy_42 : decode cX4_codeBy 42 = .ok (.aload_n 0, 1) := by decide +kernel
theorem dX4_codeBy_43 : decode cX4_codeBy 43 = .ok (.sipush 236, 3) := by decide +kernel
theorem dX4_codeBy_46 : decode cX4_codeBy 46 = .ok (.invokevirtual 209, 3) := by decide +kernel
theorem dX4_codeBy_49 : decode cX4_codeBy 49 = .ok (.iconst 0, 1) := by decide +kernel
theorem dX4_codeBy_50 : decode cX4_codeBy 50 = .ok (.istore 5, 2) := by decide +kernel
theorem dX4_codeBy_52 : decode cX4_codeBy 52 = .ok (.iload 5, 2) := by decide +kernel
theorem dX4_codeBy_54 : decode cX4_codeBy 54 = .ok (.bipush 32, 2) := by decide +kernel
theorem dX4_codeBy_56 : decode cX4_codeBy 56 = .ok (.if_icmp .ge 23, 3) := by decide +kernel
theorem dX4_codeBy_59 : decode cX4_codeBy 59 = .ok (.aload_n 0, 1) := by decide +kernel
theorem dX4_codeBy_60 : decode cX4_codeBy 60 = .ok (.getfield 35, 3) := by decide +kernel
theorem dX4_codeBy_63 : decode cX4_codeBy 63 = .ok (.iload 5, 2) := by decide +kernel
theorem dX4_codeBy_65 : decode cX4_codeBy 65 = .ok (.aload_n 0, 1) := by decide +kernel
theorem dX4_codeBy_66 : decode cX4_codeBy 66 = .ok (.getfield 29, 3) := by decide +kernel
theorem dX4_codeBy_69 : decode cX4_codeBy 69 = .ok (.iload 5, 2) := by decide +kernel
theorem dX4_codeBy_71 : decode cX4_codeBy 71 = .ok (.baload, 1) := by decide +kernel
theorem dX4_codeBy_72 : decode cX4_codeBy 72 = .ok (.bastore, 1) := by decide +kernel
theorem dX4_codeBy_73 : decode cX4_codeBy 73 = .ok (.iinc 5 1, 3) := by decide +kernel
theorem dX4_codeBy_76 : decode cX4_codeBy 76 = .ok (.goto (-24), 3) := by decide +kernel
theorem dX4_codeBy_79 : decode cX4_codeBy 79 = .ok (.aload_n 0, 1) := by decide +kernel
theorem dX4_codeBy_80 : decode cX4_codeBy 80 = .ok (.lload_n 1, 1) := by decide +kernel
theorem dX4_codeBy_81 : decode cX4_codeBy 81 = .ok (.lload_n 3, 1) := by decide +kernel
theorem dX4_codeBy_82 : decode cX4_codeBy 82 = .ok (.bipush 92, 2) := by decide +kernel
theorem dX4_codeBy_84 : decode cX4_codeBy 84 = .ok (.invokevirtual 220, 3) := by decide +kernel
theorem dX4_codeBy_87 : decode cX4_codeBy 87 = .ok (.iconst 0, 1) := by decide +kernel
theorem dX4_codeBy_88 : decode cX4_codeBy 88 = .ok (.istore 5, 2) := by decide +kernel
theorem dX4_codeBy_90 : decode cX4_codeBy 90 = .ok (.iload 5, 2) := by decide +kernel
theorem dX4_codeBy_92 : decode cX4_codeBy 92 = .ok (.bipush 32, 2) := by decide +kernel
theorem dX4_codeBy_94 : decode cX4_codeBy 94 = .ok (.if_icmp .ge 26, 3) := by decide +kernel
theorem dX4_codeBy_97 : decode cX4_codeBy 97 = .ok (.aload_n 0, 1) := by decide +kernel
theorem dX4_codeBy_98 : decode cX4_codeBy 98 = .ok (.getfield 16, 3) := by decide +kernel
theorem dX4_codeBy_101 : decode cX4_codeBy 101 = .ok (.bipush 64, 2) := by decide +kernel
theorem dX4_codeBy_103 : decode cX4_codeBy 103 = .ok (.iload 5, 2) := by decide +kernel
theorem dX4_codeBy_105 : decode cX4_codeBy 105 = .ok (.iadd, 1) := by decide +kernel
theorem dX4_codeBy_106 : decode cX4_codeBy 106 = .ok (.aload_n 0, 1) := by decide +kernel
theorem dX4_codeBy_107 : decode cX4_codeBy 107 = .ok (.getfield 35, 3) := by decide +kernel
theorem dX4_codeBy_110 : decode cX4_codeBy 110 = .ok (.iload 5, 2) := by decide +kernel
theorem dX4_codeBy_112 : decode cX4_codeBy 112 = .ok (.baload, 1) := by decide +kernel
theorem dX4_codeBy_113 : decode cX4_codeBy 113 = .ok (.bastore, 1) := by decide +kernel
theorem dX4_codeBy_114 : decode cX4_codeBy 114 = .ok (.iinc 5 1, 3) := by decide +kernel
theorem dX4_codeBy_117 : decode cX4_codeBy 117 = .ok (.goto (-27), 3) := by decide +kernel
theorem dX4_codeBy_120 : decode cX4_codeBy 120 = .ok (.aload_n 0, 1) := by decide +kernel
theorem dX4_codeBy_121 : decode cX4_codeBy 121 = .ok (.bipush 96, 2) := by decide +kernel
theorem dX4_codeBy_123 : decode cX4_codeBy 123 = .ok (.invokevirtual 209, 3) := by decide +kernel
theorem dX4_codeBy_126 : decode cX4_codeBy 126 = .ok (.iconst 0, 1) := by decide +kernel
theorem dX4_codeBy_127 : decode cX4_codeBy 127 = .ok (.istore 5, 2) := by decide +kernel
theorem dX4_codeBy_129 : decode cX4_codeBy 129 = .ok (.iload 5, 2) := by decide +kernel
theorem dX4_codeBy_131 : decode cX4_codeBy 131 = .ok (.bipush 32, 2) := by decide +kernel
theorem dX4_codeBy_133 : decode cX4_codeBy 133 = .ok (.if_icmp .ge 23, 3) := by decide +kernel
theorem dX4_codeBy_136 : decode cX4_codeBy 136 = .ok (.aload_n 0, 1) := by decide +kernel
theorem dX4_codeBy_137 : decode cX4_codeBy 137 = .ok (.getfield 35, 3) := by decide +kernel
theorem dX4_codeBy_140 : decode cX4_codeBy 140 = .ok (.iload 5, 2) := by decide +kernel
theorem dX4_codeBy_142 : decode cX4_codeBy 142 = .ok (.aload_n 0, 1) := by decide +kernel
theorem dX4_codeBy_143 : decode cX4_codeBy 143 = .ok (.getfield 29, 3) := by decide +kernel
theorem dX4_codeBy_146 : decode cX4_codeBy 146 = .ok (.iload 5, 2) := by decide +kernel
theorem dX4_codeBy_148 : decode cX4_codeBy 148 = .ok (.baload, 1) := by decide +kernel
theorem dX4_codeBy_149 : decode cX4_codeBy 149 = .ok (.bastore, 1) := by decide +kernel
theorem dX4_codeBy_150 : decode cX4_codeBy 150 = .ok (.iinc 5 1, 3) := by decide +kernel
theorem dX4_codeBy_153 : decode cX4_codeBy 153 = .ok (.goto (-24), 3) := by decide +kernel
theorem dX4_codeBy_156 : decode cX4_codeBy 156 = .ok (.return_, 1) := by decide +kernel
theorem dX4_keyToRow_0 : decode cX4_keyToRow 0 = .ok (.iconst 0, 1) := by decide +kernel
theorem dX4_keyToRow_1 : decode cX4_keyToRow 1 = .ok (.istore 6, 2) := by decide +kernel
theorem dX4_keyToRow_3 : decode cX4_keyToRow 3 = .ok (.iload 6, 2) := by decide +kernel
theorem dX4_keyToRow_5 : decode cX4_keyToRow 5 = .ok (.bipush 64, 2) := by decide +kernel
theorem dX4_keyToRow_7 : decode cX4_keyToRow 7 = .ok (.if_icmp .ge 67, 3) := by decide +kernel
theorem dX4_keyToRow_10 : decode cX4_keyToRow 10 = .ok (.iload 6, 2) := by decide +kernel
theorem dX4_keyToRow_12 : decode cX4_keyToRow 12 = .ok (.bipush 8, 2) := by decide +kernel
theorem dX4_keyToRow_14 : decode cX4_keyToRow 14 = .ok (.if_icmp .ge 17, 3) := by decide +kernel
theorem dX4_keyToRow_17 : decode cX4_keyToRow 17 = .ok (.lload_n 1, 1) := by decide +kernel
theorem dX4_keyToRow_18 : decode cX4_keyToRow 18 = .ok (.bipush 56, 2) := by decide +kernel
theorem dX4_keyToRow_20 : decode cX4_keyToRow 20 = .ok (.bipush 8, 2) := by decide +kernel
theorem dX4_keyToRow_22 : decode cX4_keyToRow 22 = .ok (.iload 6, 2) := by decide +kernel
theorem dX4_keyToRow_24 : decode cX4_keyToRow 24 = .ok (.imul, 1) := by decide +kernel
theorem dX4_keyToRow_25 : decode cX4_keyToRow 25 = .ok (.isub, 1) := by decide +kernel
theorem dX4_keyToRow_26 : decode cX4_keyToRow 26 = .ok (.lshr, 1) := by decide +kernel
theorem dX4_keyToRow_27 : decode cX4_keyToRow 27 = .ok (.l2i, 1) := by decide +kernel
theorem dX4_keyToRow_28 : decode cX4_keyToRow 28 = .ok (.goto 25, 3) := by decide +kernel
theorem dX4_keyToRow_31 : decode cX4_keyToRow 31 = .ok (.iload 6, 2) := by decide +kernel
theorem dX4_keyToRow_33 : decode cX4_keyToRow 33 = .ok (.bipush 16, 2) := by decide +kernel
theorem dX4_keyToRow_35 : decode cX4_keyToRow 35 = .ok (.if_icmp .ge 17, 3) := by decide +kernel
theorem dX4_keyToRow_38 : decode cX4_keyToRow 38 = .ok (.lload_n 3, 1) := by decide +kernel
theorem dX4_keyToRow_39 : decode cX4_keyToRow 39 = .ok (.bipush 120, 2) := by decide +kernel
theorem dX4_keyToRow_41 : decode cX4_keyToRow 41 = .ok (.bipush 8, 2) := by decide +kernel
theorem dX4_keyToRow_43 : decode cX4_keyToRow 43 = .ok (.iload 6, 2) := by decide +kernel
theorem dX4_keyToRow_45 : decode cX4_keyToRow 45 = .ok (.imul, 1) := by decide +kernel
theorem dX4_keyToRow_46 : decode cX4_keyToRow 46 = .ok (.isub, 1) := by decide +kernel
theorem dX4_keyToRow_47 : decode cX4_keyToRow 47 = .ok (.lshr, 1) := by decide +kernel
theorem dX4_keyToRow_48 : decode cX4_keyToRow 48 = .ok (.l2i, 1) := by decide +kernel
theorem dX4_keyToRow_49 : decode cX4_keyToRow 49 = .ok (.goto 4, 3) := by decide +kernel
theorem dX4_keyToRow_52 : decode cX4_keyToRow 52 = .ok (.iconst 0, 1) := by decide +kernel
theorem dX4_keyToRow_53 : decode cX4_keyToRow 53 = .ok (.istore 7, 2) := by decide +kernel
theorem dX4_keyToRow_55 : decode cX4_keyToRow 55 = .ok (.aload_n 0, 1) := by decide +kernel
theorem dX4_keyToRow_56 : decode cX4_keyToRow 56 = .ok (.getfield 16, 3) := by decide +kernel
theorem dX4_keyToRow_59 : decode cX4_keyToRow 59 = .ok (.iload 6, 2) := by decide +kernel
theorem dX4_keyToRow_61 : decode cX4_keyToRow 61 = .ok (.iload 7, 2) := by decide +kernel
theorem dX4_keyToRow_63 : decode cX4_keyToRow 63 = .ok (.iload 5, 2) := by decide +kernel
theorem dX4_keyToRow_65 : decode cX4_keyToRow 65 = .ok (.ixor, 1) := by decide +kernel
theorem dX4_keyToRow_66 : decode cX4_keyToRow 66 = .ok (.i2b, 1) := by decide +kernel
theorem dX4_keyToRow_67 : decode cX4_keyToRow 67 = .ok (.bastore, 1) := by decide +kernel
theorem dX4_keyToRow_68 : decode cX4_keyToRow 68 = .ok (.iinc 6 1, 3) := by decide +kernel
theorem dX4_keyToRow_71 : decode cX4_keyToRow 71 = .ok (.goto (-68), 3) := by decide +kernel
theorem dX4_keyToRow_74 : decode cX4_keyToRow 74 = .ok (.return_, 1) := by decide +kernel
theorem dX4_lists_0 : decode cX4_lists 0 = .ok (.iconst 0, 1) := by decide +kernel
theorem dX4_lists_1 : decode cX4_lists 1 = .ok (.istore_n 2, 1) := by decide +kernel
theorem dX4_lists_2 : decode cX4_lists 2 = .ok (.iconst 0, 1) := by decide +kernel
theorem dX4_lists_3 : decode cX4_lists 3 = .ok (.istore_n 3, 1) := by decide +kernel
theorem dX4_lists_4 : decode cX4_lists 4 = .ok (.iload_n 3, 1) := by decide +kernel
theorem dX4_lists_5 : decode cX4_lists 5 = .ok (.bipush 16, 2) := by decide +kernel
theorem dX4_lists_7 : decode cX4_lists 7 = .ok (.if_icmp .ge 31, 3) := by decide +kernel
theorem dX4_lists_10 : decode cX4_lists 10 = .ok (.iload_n 2, 1) := by decide +kernel
theorem dX4_lists_11 : decode cX4_lists 11 = .ok (.aload_n 0, 1) := by decide +kernel
theorem dX4_lists_12 : decode cX4_lists 12 = .ok (.getfield 106, 3) := by decide +kernel
theorem dX4_lists_15 : decode cX4_lists 15 = .ok (.bipush 8, 2) := by decide +kernel
theorem dX4_lists_17 : decode cX4_lists 17 = .ok (.iload_n 3, 1) := by decide +kernel
theorem dX4_lists_18 : decode cX4_lists 18 = .ok (.imul, 1) := by decide +kernel
theorem dX4_lists_19 : decode cX4_lists 19 = .ok (.iload_n 1, 1) := by decide +kernel
theorem dX4_lists_20 : decode cX4_lists 20 = .ok (.iadd, 1) := by decide +kernel
theorem dX4_lists_21 : decode cX4_lists 21 = .ok (.baload, 1) := by decide +kernel
theorem dX4_lists_22 : decode cX4_lists 22 = .ok (.ifCond .eq 7, 3) := by decide +kernel
theorem dX4_lists_25 : decode cX4_lists 25 = .ok (.iconst 1, 1) := by decide +kernel
theorem dX4_lists_26 : decode cX4_lists 26 = .ok (.goto 4, 3) := by decide +kernel
theorem dX4_lists_29 : decode cX4_lists 29 = .ok (.iconst 0, 1) := by decide +kernel
theorem dX4_lists_30 : decode cX4_lists 30 = .ok (.iadd, 1) := by decide +kernel
theorem dX4_lists_31 : decode cX4_lists 31 = .ok (.istore_n 2, 1) := by decide +kernel
theorem dX4_lists_32 : decode cX4_lists 32 = .ok (.iinc 3 1, 3) := by decide +kernel
theorem dX4_lists_35 : decode cX4_lists 35 = .ok (.goto (-31), 3) := by decide +kernel
theorem dX4_lists_38 : decode cX4_lists 38 = .ok (.iload_n 2, 1) := by decide +kernel
theorem dX4_lists_39 : decode cX4_lists 39 = .ok (.ireturn, 1) := by decide +kernel
theorem dX4_stays_0 : decode cX4_stays 0 = .ok (.aload_n 0, 1) := by decide +kernel
theorem dX4_stays_1 : decode cX4_stays 1 = .ok (.getfield 103, 3) := by decide +kernel
theorem dX4_stays_4 : decode cX4_stays 4 = .ok (.iload_n 1, 1) := by decide +kernel
theorem dX4_stays_5 : decode cX4_stays 5 = .ok (.iaload, 1) := by decide +kernel
theorem dX4_stays_6 : decode cX4_stays 6 = .ok (.istore_n 2, 1) := by decide +kernel
theorem dX4_stays_7 : decode cX4_stays 7 = .ok (.aload_n 0, 1) := by decide +kernel
theorem dX4_stays_8 : decode cX4_stays 8 = .ok (.getfield 103, 3) := by decide +kernel
theorem dX4_stays_11 : decode cX4_stays 11 = .ok (.iload_n 1, 1) := by decide +kernel
theorem dX4_stays_12 : decode cX4_stays 12 = .ok (.iconst (-1), 1) := by decide +kernel
theorem dX4_stays_13 : decode cX4_stays 13 = .ok (.iastore, 1) := by decide +kernel
theorem dX4_stays_14 : decode cX4_stays 14 = .ok (.iload_n 2, 1) := by decide +kernel
theorem dX4_stays_15 : decode cX4_stays 15 = .ok (.iconst (-1), 1) := by decide +kernel
theorem dX4_stays_16 : decode cX4_stays 16 = .ok (.if_icmp .eq 8, 3) := by decide +kernel
theorem dX4_stays_19 : decode cX4_stays 19 = .ok (.iload_n 2, 1) := by decide +kernel
theorem dX4_stays_20 : decode cX4_stays 20 = .ok (.iconst 3, 1) := by decide +kernel
theorem dX4_stays_21 : decode cX4_stays 21 = .ok (.if_icmp .ne 7, 3) := by decide +kernel
theorem dX4_stays_24 : decode cX4_stays 24 = .ok (.iconst 1, 1) := by decide +kernel
theorem dX4_stays_25 : decode cX4_stays 25 = .ok (.goto 4, 3) := by decide +kernel
theorem dX4_stays_28 : decode cX4_stays 28 = .ok (.iconst 0, 1) := by decide +kernel
theorem dX4_stays_29 : decode cX4_stays 29 = .ok (.ireturn, 1) := by decide +kernel
theorem dX4_pay_0 : decode cX4_pay 0 = .ok (.aload_n 0, 1) := by decide +kernel
theorem dX4_pay_1 : decode cX4_pay 1 = .ok (.iconst 0, 1) := by decide +kernel
theorem dX4_pay_2 : decode cX4_pay 2 = .ok (.putfield 121, 3) := by decide +kernel
theorem dX4_pay_5 : decode cX4_pay 5 = .ok (.aload_n 0, 1) := by decide +kernel
theorem dX4_pay_6 : decode cX4_pay 6 = .ok (.iload_n 1, 1) := by decide +kernel
theorem dX4_pay_7 : decode cX4_pay 7 = .ok (.iload_n 2, 1) := by decide +kernel
theorem dX4_pay_8 : decode cX4_pay 8 = .ok (.invokevirtual 274, 3) := by decide +kernel
theorem dX4_pay_11 : decode cX4_pay 11 = .ok (.ifCond .eq 24, 3) := by decide +kernel
theorem dX4_pay_14 : decode cX4_pay 14 = .ok (.iload 4, 2) := by decide +kernel
theorem dX4_pay_16 : decode cX4_pay 16 = .ok (.iconst 0, 1) := by decide +kernel
theorem dX4_pay_17 : decode cX4_pay 17 = .ok (.bipush 15, 2) := by decide +kernel
theorem dX4_pay_19 : decode cX4_pay 19 = .ok (.invokestatic 259, 3) := by decide +kernel
theorem dX4_pay_22 : decode cX4_pay 22 = .ok (.ifCond .eq 13, 3) := by decide +kernel
theorem dX4_pay_25 : decode cX4_pay 25 = .ok (.iload_n 3, 1) := by decide +kernel
theorem dX4_pay_26 : decode cX4_pay 26 = .ok (.iconst 1, 1) := by decide +kernel
theorem dX4_pay_27 : decode cX4_pay 27 = .ok (.bipush 50, 2) := by decide +kernel
theorem dX4_pay_29 : decode cX4_pay 29 = .ok (.invokestatic 259, 3) := by decide +kernel
theorem dX4_pay_32 : decode cX4_pay 32 = .ok (.ifCond .ne 5, 3) := by decide +kernel
theorem dX4_pay_35 : decode cX4_pay 35 = .ok (.iconst (-1), 1) := by decide +kernel
theorem dX4_pay_36 : decode cX4_pay 36 = .ok (.ireturn, 1) := by decide +kernel
theorem dX4_pay_37 : decode cX4_pay 37 = .ok (.aload_n 0, 1) := by decide +kernel
theorem dX4_pay_38 : decode cX4_pay 38 = .ok (.getfield 109, 3) := by decide +kernel
theorem dX4_pay_41 : decode cX4_pay 41 = .ok (.bipush 8, 2) := by decide +kernel
theorem dX4_pay_43 : decode cX4_pay 43 = .ok (.iload_n 1, 1) := by decide +kernel
theorem dX4_pay_44 : decode cX4_pay 44 = .ok (.imul, 1) := by decide +kernel
theorem dX4_pay_45 : decode cX4_pay 45 = .ok (.iload_n 2, 1) := by decide +kernel
theorem dX4_pay_46 : decode cX4_pay 46 = .ok (.iadd, 1) := by decide +kernel
theorem dX4_pay_47 : decode cX4_pay 47 = .ok (.iaload, 1) := by decide +kernel
theorem dX4_pay_48 : decode cX4_pay 48 = .ok (.iload_n 3, 1) := by decide +kernel
theorem dX4_pay_49 : decode cX4_pay 49 = .ok (.iadd, 1) := by decide +kernel
theorem dX4_pay_50 : decode cX4_pay 50 = .ok (.istore 5, 2) := by decide +kernel
theorem dX4_pay_52 : decode cX4_pay 52 = .ok (.aload_n 0, 1) := by decide +kernel
theorem dX4_pay_53 : decode cX4_pay 53 = .ok (.iload_n 1, 1) := by decide +kernel
theorem dX4_pay_54 : decode cX4_pay 54 = .ok (.iload_n 2, 1) := by decide +kernel
theorem dX4_pay_55 : decode cX4_pay 55 = .ok (.iload 5, 2) := by decide +kernel
theorem dX4_pay_57 : decode cX4_pay 57 = .ok (.invokevirtual 289, 3) := by decide +kernel
theorem dX4_pay_60 : decode cX4_pay 60 = .ok (.istore 6, 2) := by decide +kernel
theorem dX4_pay_62 : decode cX4_pay 62 = .ok (.iload 6, 2) := by decide +kernel
theorem dX4_pay_64 : decode cX4_pay 64 = .ok (.ifCond .eq 6, 3) := by decide +kernel
theorem dX4_pay_67 : decode cX4_pay 67 = .ok (.iload 6, 2) := by decide +kernel
theorem dX4_pay_69 : decode cX4_pay 69 = .ok (.ireturn, 1) := by decide +kernel
theorem dX4_pay_70 : decode cX4_pay 70 = .ok (.aload_n 0, 1) := by decide +kernel
theorem dX4_pay_71 : decode cX4_pay 71 = .ok (.iload_n 1, 1) := by decide +kernel
theorem dX4_pay_72 : decode cX4_pay 72 = .ok (.iload 5, 2) := by decide +kernel
theorem dX4_pay_74 : decode cX4_pay 74 = .ok (.invokevirtual 228, 3) := by decide +kernel
theorem dX4_pay_77 : decode cX4_pay 77 = .ok (.aload_n 0, 1) := by decide +kernel
theorem dX4_pay_78 : decode cX4_pay 78 = .ok (.iload_n 1, 1) := by decide +kernel
theorem dX4_pay_79 : decode cX4_pay 79 = .ok (.iload_n 2, 1) := by decide +kernel
theorem dX4_pay_80 : decode cX4_pay 80 = .ok (.iload 5, 2) := by decide +kernel
theorem dX4_pay_82 : decode cX4_pay 82 = .ok (.iload 4, 2) := by decide +kernel
theorem dX4_pay_84 : decode cX4_pay 84 = .ok (.iconst 0, 1) := by decide +kernel
theorem dX4_pay_85 : decode cX4_pay 85 = .ok (.invokevirtual 293, 3) := by decide +kernel
theorem dX4_pay_88 : decode cX4_pay 88 = .ok (.ireturn, 1) := by decide +kernel
theorem dX4_answers_0 : decode cX4_answers 0 = .ok (.bipush 8, 2) := by decide +kernel
theorem dX4_answers_2 : decode cX4_answers 2 = .ok (.iload_n 1, 1) := by decide +kernel
theorem dX4_answers_3 : decode cX4_answers 3 = .ok (.imul, 1) := by decide +kernel
theorem dX4_answers_4 : decode cX4_answers 4 = .ok (.iload_n 2, 1) := by decide +kernel
theorem dX4_answers_5 : decode cX4_answers 5 = .ok (.iadd, 1) := by decide +kernel
theorem dX4_answers_6 : decode cX4_answers 6 = .ok (.istore 4, 2) := by decide +kernel
theorem dX4_answers_8 : decode cX4_answers 8 = .ok (.aload_n 0, 1) := by decide +kernel
theorem dX4_answers_9 : decode cX4_answers 9 = .ok (.getfield 106, 3) := by decide +kernel
theorem dX4_answers_12 : decode cX4_answers 12 = .ok (.iload 4, 2) := by decide +kernel
theorem dX4_answers_14 : decode cX4_answers 14 = .ok (.baload, 1) := by decide +kernel
theorem dX4_answers_15 : decode cX4_answers 15 = .ok (.ifCond .eq 16, 3) := by decide +kernel
theorem dX4_answers_18 : decode cX4_answers 18 = .ok (.aload_n 0, 1) := by decide +kernel
theorem dX4_answers_19 : decode cX4_answers 19 = .ok (.getfield 255, 3) := by decide +kernel
theorem dX4_answers_22 : decode cX4_answers 22 = .ok (.aload_n 0, 1) := by decide +kernel
theorem dX4_answers_23 : decode cX4_answers 23 = .ok (.getfield 63, 3) := by decide +kernel
theorem dX4_answers_26 : decode cX4_answers 26 = .ok (.iload_n 1, 1) := by decide +kernel
theorem dX4_answers_27 : decode cX4_answers 27 = .ok (.iaload, 1) := by decide +kernel
theorem dX4_answers_28 : decode cX4_answers 28 = .ok (.if_icmp .le 6, 3) := by decide +kernel
theorem dX4_answers_31 : decode cX4_answers 31 = .ok (.bipush (-2), 2) := by decide +kernel
theorem dX4_answers_33 : decode cX4_answers 33 = .ok (.ireturn, 1) := by decide +kernel
theorem dX4_answers_34 : decode cX4_answers 34 = .ok (.iload_n 3, 1) := by decide +kernel
theorem dX4_answers_35 : decode cX4_answers 35 = .ok (.aload_n 0, 1) := by decide +kernel
theorem dX4_answers_36 : decode cX4_answers 36 = .ok (.getfield 109, 3) := by decide +kernel
theorem dX4_answers_39 : decode cX4_answers 39 = .ok (.iload 4, 2) := by decide +kernel
theorem dX4_answers_41 : decode cX4_answers 41 = .ok (.iaload, 1) := by decide +kernel
theorem dX4_answers_42 : decode cX4_answers 42 = .ok (.if_icmp .le 27, 3) := by decide +kernel
theorem dX4_answers_45 : decode cX4_answers 45 = .ok (.iload_n 3, 1) := by decide +kernel
theorem dX4_answers_46 : decode cX4_answers 46 = .ok (.aload_n 0, 1) := by decide +kernel
theorem dX4_answers_47 : decode cX4_answers 47 = .ok (.getfield 109, 3) := by decide +kernel
theorem dX4_answers_50 : decode cX4_answers 50 = .ok (.iload 4, 2) := by decide +kernel
theorem dX4_answers_52 : decode cX4_answers 52 = .ok (.iaload, 1) := by decide +kernel
theorem dX4_answers_53 : decode cX4_answers 53 = .ok (.bipush 50, 2) := by decide +kernel
theorem dX4_answers_55 : decode cX4_answers 55 = .ok (.iadd, 1) := by decide +kernel
theorem dX4_answers_56 : decode cX4_answers 56 = .ok (.if_icmp .gt 13, 3) := by decide +kernel
theorem dX4_answers_59 : decode cX4_answers 59 = .ok (.iload_n 3, 1) := by decide +kernel
theorem dX4_answers_60 : decode cX4_answers 60 = .ok (.aload_n 0, 1) := by decide +kernel
theorem dX4_answers_61 : decode cX4_answers 61 = .ok (.getfield 51, 3) := by decide +kernel
theorem dX4_answers_64 : decode cX4_answers 64 = .ok (.iload_n 1, 1) := by decide +kernel
theorem dX4_answers_65 : decode cX4_answers 65 = .ok (.iaload, 1) := by decide +kernel
theorem dX4_answers_66 : decode cX4_answers 66 = .ok (.if_icmp .le 8, 3) := by decide +kernel
theorem dX4_answers_69 : decode cX4_answers 69 = .ok (.bipush (-3), 2) := by decide +kernel
theorem dX4_answers_71 : decode cX4_answers 71 = .ok (.goto 4, 3) := by decide +kernel
theorem dX4_answers_74 : decode cX4_answers 74 = .ok (.iconst 0, 1) := by decide +kernel
theorem dX4_answers_75 : decode cX4_answers 75 = .ok (.ireturn, 1) := by decide +kernel
theorem dX4_takes_0 : decode cX4_takes 0 = .ok (.bipush 8, 2) := by decide +kernel
theorem dX4_takes_2 : decode cX4_takes 2 = .ok (.iload_n 1, 1) := by decide +kernel
theorem dX4_takes_3 : decode cX4_takes 3 = .ok (.imul, 1) := by decide +kernel
theorem dX4_takes_4 : decode cX4_takes 4 = .ok (.iload_n 2, 1) := by decide +kernel
theorem dX4_takes_5 : decode cX4_takes 5 = .ok (.iadd, 1) := by decide +kernel
theorem dX4_takes_6 : decode cX4_takes 6 = .ok (.istore 6, 2) := by decide +kernel
theorem dX4_takes_8 : decode cX4_takes 8 = .ok (.iload_n 3, 1) := by decide +kernel
theorem dX4_takes_9 : decode cX4_takes 9 = .ok (.aload_n 0, 1) := by decide +kernel
theorem dX4_takes_10 : decode cX4_takes 10 = .ok (.getfield 109, 3) := by decide +kernel
theorem dX4_takes_13 : decode cX4_takes 13 = .ok (.iload 6, 2) := by decide +kernel
theorem dX4_takes_15 : decode cX4_takes 15 = .ok (.iaload, 1) := by decide +kernel
theorem dX4_takes_16 : decode cX4_takes 16 = .ok (.isub, 1) := by decide +kernel
theorem dX4_takes_17 : decode cX4_takes 17 = .ok (.istore 7, 2) := by decide +kernel
theorem dX4_takes_19 : decode cX4_takes 19 = .ok (.iconst 0, 1) := by decide +kernel
theorem dX4_takes_20 : decode cX4_takes 20 = .ok (.istore 8, 2) := by decide +kernel
theorem dX4_takes_22 : decode cX4_takes 22 = .ok (.iload 8, 2) := by decide +kernel
theorem dX4_takes_24 : decode cX4_takes 24 = .ok (.bipush 20, 2) := by decide +kernel
theorem dX4_takes_26 : decode cX4_takes 26 = .ok (.if_icmp .ge 28, 3) := by decide +kernel
theorem dX4_takes_29 : decode cX4_takes 29 = .ok (.iload 5, 2) := by decide +kernel
theorem dX4_takes_31 : decode cX4_takes 31 = .ok (.ifCond .eq 23, 3) := by decide +kernel
theorem dX4_takes_34 : decode cX4_takes 34 = .ok (.aload_n 0, 1) := by decide +kernel
theorem dX4_takes_35 : decode cX4_takes 35 = .ok (.getfield 32, 3) := by decide +kernel
theorem dX4_takes_38 : decode cX4_takes 38 = .ok (.iload 8, 2) := by decide +kernel
theorem dX4_takes_40 : decode cX4_takes 40 = .ok (.aload_n 0, 1) := by decide +kernel
theorem dX4_takes_41 : decode cX4_takes 41 = .ok (.getfield 41, 3) := by decide +kernel
theorem dX4_takes_44 : decode cX4_takes 44 = .ok (.iload 8, 2) := by decide +kernel
theorem dX4_takes_46 : decode cX4_takes 46 = .ok (.baload, 1) := by decide +kernel
theorem dX4_takes_47 : decode cX4_takes 47 = .ok (.bastore, 1) := by decide +kernel
theorem dX4_takes_48 : decode cX4_takes 48 = .ok (.iinc 8 1, 3) := by decide +kernel
theorem dX4_takes_51 : decode cX4_takes 51 = .ok (.goto (-29), 3) := by decide +kernel
theorem dX4_takes_54 : decode cX4_takes 54 = .ok (.iconst 1, 1) := by decide +kernel
theorem dX4_takes_55 : decode cX4_takes 55 = .ok (.istore 8, 2) := by decide +kernel
theorem dX4_takes_57 : decode cX4_takes 57 = .ok (.iload 8, 2) := by decide +kernel
theorem dX4_takes_59 : decode cX4_takes 59 = .ok (.iload 7, 2) := by decide +kernel
theorem dX4_takes_61 : decode cX4_takes 61 = .ok (.if_icmp .gt 38, 3) := by decide +kernel
theorem dX4_takes_64 : decode cX4_takes 64 = .ok (.aload_n 0, 1) := by decide +kernel
theorem dX4_takes_65 : decode cX4_takes 65 = .ok (.getfield 109, 3) := by decide +kernel
theorem dX4_takes_68 : decode cX4_takes 68 = .ok (.iload 6, 2) := by decide +kernel
theorem dX4_takes_70 : decode cX4_takes 70 = .ok (.iaload, 1) := by decide +kernel
theorem dX4_takes_71 : decode cX4_takes 71 = .ok (.ifCond .ne 18, 3) := by decide +kernel
theorem dX4_takes_74 : decode cX4_takes 74 = .ok (.iload 8, 2) := by decide +kernel
theorem dX4_takes_76 : decode cX4_takes 76 = .ok (.iload 7, 2) := by decide +kernel
theorem dX4_takes_78 : decode cX4_takes 78 = .ok (.if_icmp .ne 11, 3) := by decide +kernel
theorem dX4_takes_81 : decode cX4_takes 81 = .ok (.aload_n 0, 1) := by decide +kernel
theorem dX4_takes_82 : decode cX4_takes 82 = .ok (.iload_n 2, 1) := by decide +kernel
theorem dX4_takes_83 : decode cX4_takes 83 = .ok (.invokevirtual 232, 3) := by decide +kernel
theorem dX4_takes_86 : decode cX4_takes 86 = .ok (.goto 7, 3) := by decide +kernel
theorem dX4_takes_89 : decode cX4_takes 89 = .ok (.aload_n 0, 1) := by decide +kernel
theorem dX4_takes_90 : decode cX4_takes 90 = .ok (.invokevirtual 214, 3) := by decide +kernel
theorem dX4_takes_93 : decode cX4_takes 93 = .ok (.iinc 8 1, 3) := by decide +kernel
theorem dX4_takes_96 : decode cX4_takes 96 = .ok (.goto (-39), 3) := by decide +kernel
theorem dX4_takes_99 : decode cX4_takes 99 = .ok (.iconst 0, 1) := by decide +kernel
theorem dX4_takes_100 : decode cX4_takes 100 = .ok (.istore 8, 2) := by decide +kernel
theorem dX4_takes_102 : decode cX4_takes 102 = .ok (.iload 8, 2) := by decide +kernel
theorem dX4_takes_104 : decode cX4_takes 104 = .ok (.bipush 20, 2) := by decide +kernel
theorem dX4_takes_106 : decode cX4_takes 106 = .ok (.if_icmp .ge 35, 3) := by decide +kernel
theorem dX4_takes_109 : decode cX4_takes 109 = .ok (.aload_n 0, 1) := by decide +kernel
theorem dX4_takes_110 : decode cX4_takes 110 = .ok (.getfield 32, 3) := by decide +kernel
theorem dX4_takes_113 : decode cX4_takes 113 = .ok (.iload 8, 2) := by decide +kernel
theorem dX4_takes_115 : decode cX4_takes 115 = .ok (.baload, 1) := by decide +kernel
theorem dX4_takes_116 : decode cX4_takes 116 = .ok (.aload_n 0, 1) := by decide +kernel
theorem dX4_takes_117 : decode cX4_takes 117 = .ok (.getfield 112, 3) := by decide +kernel
theorem dX4_takes_120 : decode cX4_takes 120 = .ok (.bipush 20, 2) := by decide +kernel
theorem dX4_takes_122 : decode cX4_takes 122 = .ok (.iload 6, 2) := by decide +kernel
theorem dX4_takes_124 : decode cX4_takes 124 = .ok (.imul, 1) := by decide +kernel
theorem dX4_takes_125 : decode cX4_takes 125 = .ok (.iload 8, 2) := by decide +kernel
theorem dX4_takes_127 : decode cX4_takes 127 = .ok (.iadd, 1) := by decide +kernel
theorem dX4_takes_128 : decode cX4_takes 128 = .ok (.baload, 1) := by decide +kernel
theorem dX4_takes_129 : decode cX4_takes 129 = .ok (.if_icmp .eq 6, 3) := by decide +kernel
theorem dX4_takes_132 : decode cX4_takes 132 = .ok (.bipush (-4), 2) := by decide +kernel
theorem dX4_takes_134 : decode cX4_takes 134 = .ok (.ireturn, 1) := by decide +kernel
theorem dX4_takes_135 : decode cX4_takes 135 = .ok (.iinc 8 1, 3) := by decide +kernel
theorem dX4_takes_138 : decode cX4_takes 138 = .ok (.goto (-36), 3) := by decide +kernel
theorem dX4_takes_141 : decode cX4_takes 141 = .ok (.aload_n 0, 1) := by decide +kernel
theorem dX4_takes_142 : decode cX4_takes 142 = .ok (.iload_n 2, 1) := by decide +kernel
theorem dX4_takes_143 : decode cX4_takes 143 = .ok (.invokevirtual 285, 3) := by decide +kernel
theorem dX4_takes_146 : decode cX4_takes 146 = .ok (.ifCond .ne 6, 3) := by decide +kernel
theorem dX4_takes_149 : decode cX4_takes 149 = .ok (.bipush (-5), 2) := by decide +kernel
theorem dX4_takes_151 : decode cX4_takes 151 = .ok (.ireturn, 1) := by decide +kernel
theorem dX4_takes_152 : decode cX4_takes 152 = .ok (.iload 5, 2) := by decide +kernel
theorem dX4_takes_154 : decode cX4_takes 154 = .ok (.ifCond .ne 9, 3) := by decide +kernel
theorem dX4_takes_157 : decode cX4_takes 157 = .ok (.aload_n 0, 1) := by decide +kernel
theorem dX4_takes_158 : decode cX4_takes 158 = .ok (.iload_n 1, 1) := by decide +kernel
theorem dX4_takes_159 : decode cX4_takes 159 = .ok (.iload_n 3, 1) := by decide +kernel
theorem dX4_takes_160 : decode cX4_takes 160 = .ok (.invokevirtual 228, 3) := by decide +kernel
theorem dX4_takes_163 : decode cX4_takes 163 = .ok (.iconst 0, 1) := by decide +kernel
theorem dX4_takes_164 : decode cX4_takes 164 = .ok (.istore 8, 2) := by decide +kernel
theorem dX4_takes_166 : decode cX4_takes 166 = .ok (.iload 8, 2) := by decide +kernel
theorem dX4_takes_168 : decode cX4_takes 168 = .ok (.bipush 20, 2) := by decide +kernel
theorem dX4_takes_170 : decode cX4_takes 170 = .ok (.if_icmp .ge 44, 3) := by decide +kernel
theorem dX4_takes_173 : decode cX4_takes 173 = .ok (.aload_n 0, 1) := by decide +kernel
theorem dX4_takes_174 : decode cX4_takes 174 = .ok (.getfield 112, 3) := by decide +kernel
theorem dX4_takes_177 : decode cX4_takes 177 = .ok (.bipush 20, 2) := by decide +kernel
theorem dX4_takes_179 : decode cX4_takes 179 = .ok (.iload 6, 2) := by decide +kernel
theorem dX4_takes_181 : decode cX4_takes 181 = .ok (.imul, 1) := by decide +kernel
theorem dX4_takes_182 : decode cX4_takes 182 = .ok (.iload 8, 2) := by decide +kernel
theorem dX4_takes_184 : decode cX4_takes 184 = .ok (.iadd, 1) := by decide +kernel
theorem dX4_takes_185 : decode cX4_takes 185 = .ok (.iload 5, 2) := by decide +kernel
theorem dX4_takes_187 : decode cX4_takes 187 = .ok (.ifCond .eq 13, 3) := by decide +kernel
theorem dX4_takes_190 : decode cX4_takes 190 = .ok (.aload_n 0, 1) := by decide +kernel
theorem dX4_takes_191 : decode cX4_takes 191 = .ok (.getfield 41, 3) := by decide +kernel
theorem dX4_takes_194 : decode cX4_takes 194 = .ok (.iload 8, 2) := by decide +kernel
theorem dX4_takes_196 : decode cX4_takes 196 = .ok (.baload, 1) := by decide +kernel
theorem dX4_takes_197 : decode cX4_takes 197 = .ok (.goto 10, 3) := by decide +kernel
theorem dX4_takes_200 : decode cX4_takes 200 = .ok (.aload_n 0, 1) := by decide +kernel
theorem dX4_takes_201 : decode cX4_takes 201 = .ok (.getfield 32, 3) := by decide +kernel
theorem dX4_takes_204 : decode cX4_takes 204 = .ok (.iload 8, 2) := by decide +kernel
theorem dX4_takes_206 : decode cX4_takes 206 = .ok (.baload, 1) := by decide +kernel
theorem dX4_takes_207 : decode cX4_takes 207 = .ok (.bastore, 1) := by decide +kernel
theorem dX4_takes_208 : decode cX4_takes 208 = .ok (.iinc 8 1, 3) := by decide +kernel
theorem dX4_takes_211 : decode cX4_takes 211 = .ok (.goto (-45), 3) := by decide +kernel
theorem dX4_takes_214 : decode cX4_takes 214 = .ok (.aload_n 0, 1) := by decide +kernel
theorem dX4_takes_215 : decode cX4_takes 215 = .ok (.getfield 109, 3) := by decide +kernel
theorem dX4_takes_218 : decode cX4_takes 218 = .ok (.iload 6, 2) := by decide +kernel
theorem dX4_takes_220 : decode cX4_takes 220 = .ok (.iload_n 3, 1) := by decide +kernel
theorem dX4_takes_221 : decode cX4_takes 221 = .ok (.iastore, 1) := by decide +kernel
theorem dX4_takes_222 : decode cX4_takes 222 = .ok (.aload_n 0, 1) := by decide +kernel
theorem dX4_takes_223 : decode cX4_takes 223 = .ok (.getfield 115, 3) := by decide +kernel
theorem dX4_takes_226 : decode cX4_takes 226 = .ok (.bipush 16, 2) := by decide +kernel
theorem dX4_takes_228 : decode cX4_takes 228 = .ok (.iload_n 2, 1) := by decide +kernel
theorem dX4_takes_229 : decode cX4_takes 229 = .ok (.imul, 1) := by decide +kernel
theorem dX4_takes_230 : decode cX4_takes 230 = .ok (.iload 4, 2) := by decide +kernel
theorem dX4_takes_232 : decode cX4_takes 232 = .ok (.iadd, 1) := by decide +kernel
theorem dX4_takes_233 : decode cX4_takes 233 = .ok (.dup2, 1) := by decide +kernel
theorem dX4_takes_234 : decode cX4_takes 234 = .ok (.iaload, 1) := by decide +kernel
theorem dX4_takes_235 : decode cX4_takes 235 = .ok (.iconst 2, 1) := by decide +kernel
theorem dX4_takes_236 : decode cX4_takes 236 = .ok (.aload_n 0, 1) := by decide +kernel
theorem dX4_takes_237 : decode cX4_takes 237 = .ok (.getfield 54, 3) := by decide +kernel
theorem dX4_takes_240 : decode cX4_takes 240 = .ok (.iload_n 1, 1) := by decide +kernel
theorem dX4_takes_241 : decode cX4_takes 241 = .ok (.iaload, 1) := by decide +kernel
theorem dX4_takes_242 : decode cX4_takes 242 = .ok (.imul, 1) := by decide +kernel
theorem dX4_takes_243 : decode cX4_takes 243 = .ok (.iload 7, 2) := by decide +kernel
theorem dX4_takes_245 : decode cX4_takes 245 = .ok (.imul, 1) := by decide +kernel
theorem dX4_takes_246 : decode cX4_takes 246 = .ok (.iadd, 1) := by decide +kernel
theorem dX4_takes_247 : decode cX4_takes 247 = .ok (.iastore, 1) := by decide +kernel
theorem dX4_takes_248 : decode cX4_takes 248 = .ok (.iconst 2, 1) := by decide +kernel
theorem dX4_takes_249 : decode cX4_takes 249 = .ok (.aload_n 0, 1) := by decide +kernel
theorem dX4_takes_250 : decode cX4_takes 250 = .ok (.getfield 54, 3) := by decide +kernel
theorem dX4_takes_253 : decode cX4_takes 253 = .ok (.iload_n 1, 1) := by decide +kernel
theorem dX4_takes_254 : decode cX4_takes 254 = .ok (.iaload, 1) := by decide +kernel
theorem dX4_takes_255 : decode cX4_takes 255 = .ok (.imul, 1) := by decide +kernel
theorem dX4_takes_256 : decode cX4_takes 256 = .ok (.iload 7, 2) := by decide +kernel
theorem dX4_takes_258 : decode cX4_takes 258 = .ok (.imul, 1) := by decide +kernel
theorem dX4_takes_259 : decode cX4_takes 259 = .ok (.ireturn, 1) := by decide +kernel
