theorem dX2_init_0 : decode cX2_init 0 = .ok (.aload_n 0, 1) := by decide +kernel
theorem dX2_init_1 : decode cX2_init 1 = .ok (.invokespecial 3, 3) := by decide +kernel
theorem dX2_init_4 : decode cX2_init 4 = .ok (.aload_n 0, 1) := by decide +kernel
theorem dX2_init_5 : decode cX2_init 5 = .ok (.iload_n 1, 1) := by decide +kernel
theorem dX2_init_6 : decode cX2_init 6 = .ok (.putfield 9, 3) := by decide +kernel
theorem dX2_init_9 : decode cX2_init 9 = .ok (.aload_n 0, 1) := by decide +kernel
theorem dX2_init_10 : decode cX2_init 10 = .ok (.iload_n 2, 1) := by decide +kernel
theorem dX2_init_11 : decode cX2_init 11 = .ok (.putfield 15, 3) := by decide +kernel
theorem dX2_init_14 : decode cX2_init 14 = .ok (.aload_n 0, 1) := by decide +kernel
theorem dX2_init_15 : decode cX2_init 15 = .ok (.iload_n 3, 1) := by decide +kernel
theorem dX2_init_16 : decode cX2_init 16 = .ok (.putfield 18, 3) := by decide +kernel
theorem dX2_init_19 : decode cX2_init 19 = .ok (.aload_n 0, 1) := by decide +kernel
theorem dX2_init_20 : decode cX2_init 20 = .ok (.iload 4, 2) := by decide +kernel
theorem dX2_init_22 : decode cX2_init 22 = .ok (.putfield 21, 3) := by decide +kernel
theorem dX2_init_25 : decode cX2_init 25 = .ok (.aload_n 0, 1) := by decide +kernel
theorem dX2_init_26 : decode cX2_init 26 = .ok (.iload 5, 2) := by decide +kernel
theorem dX2_init_28 : decode cX2_init 28 = .ok (.putfield 24, 3) := by decide +kernel
theorem dX2_init_31 : decode cX2_init 31 = .ok (.aload_n 0, 1) := by decide +kernel
theorem dX2_init_32 : decode cX2_init 32 = .ok (.iload 6, 2) := by decide +kernel
theorem dX2_init_34 : decode cX2_init 34 = .ok (.putfield 27, 3) := by decide +kernel
theorem dX2_init_37 : decode cX2_init 37 = .ok (.aload_n 0, 1) := by decide +kernel
theorem dX2_init_38 : decode cX2_init 38 = .ok (.iload_n 3, 1) := by decide +kernel
theorem dX2_init_39 : decode cX2_init 39 = .ok (.bipush 20, 2) := by decide +kernel
theorem dX2_init_41 : decode cX2_init 41 = .ok (.imul, 1) := by decide +kernel
theorem dX2_init_42 : decode cX2_init 42 = .ok (.newarray .byte, 2) := by decide +kernel
theorem dX2_init_44 : decode cX2_init 44 = .ok (.putfield 30, 3) := by decide +kernel
theorem dX2_init_47 : decode cX2_init 47 = .ok (.aload_n 0, 1) := by decide +kernel
theorem dX2_init_48 : decode cX2_init 48 = .ok (.sipush 204, 3) := by decide +kernel
theorem dX2_init_51 : decode cX2_init 51 = .ok (.newarray .byte, 2) := by decide +kernel
theorem dX2_init_53 : decode cX2_init 53 = .ok (.putfield 34, 3) := by decide +kernel
theorem dX2_init_56 : decode cX2_init 56 = .ok (.aload_n 0, 1) := by decide +kernel
theorem dX2_init_57 : decode cX2_init 57 = .ok (.bipush 8, 2) := by decide +kernel
theorem dX2_init_59 : decode cX2_init 59 = .ok (.newarray .int, 2) := by decide +kernel
theorem dX2_init_61 : decode cX2_init 61 = .ok (.putfield 37, 3) := by decide +kernel
theorem dX2_init_64 : decode cX2_init 64 = .ok (.aload_n 0, 1) := by decide +kernel
theorem dX2_init_65 : decode cX2_init 65 = .ok (.bipush 8, 2) := by decide +kernel
theorem dX2_init_67 : decode cX2_init 67 = .ok (.newarray .int, 2) := by decide +kernel
theorem dX2_init_69 : decode cX2_init 69 = .ok (.putfield 41, 3) := by decide +kernel
theorem dX2_init_72 : decode cX2_init 72 = .ok (.return_, 1) := by decide +kernel
theorem dX2_mint_0 : decode cX2_mint 0 = .ok (.aload_n 3, 1) := by decide +kernel
theorem dX2_mint_1 : decode cX2_mint 1 = .ok (.invokevirtual 48, 3) := by decide +kernel
theorem dX2_mint_4 : decode cX2_mint 4 = .ok (.aload_n 3, 1) := by decide +kernel
theorem dX2_mint_5 : decode cX2_mint 5 = .ok (.lload_n 1, 1) := by decide +kernel
theorem dX2_mint_6 : decode cX2_mint 6 = .ok (.bipush 8, 2) := by decide +kernel
theorem dX2_mint_8 : decode cX2_mint 8 = .ok (.invokevirtual 53, 3) := by decide +kernel
theorem dX2_mint_11 : decode cX2_mint 11 = .ok (.aload_n 3, 1) := by decide +kernel
theorem dX2_mint_12 : decode cX2_mint 12 = .ok (.aload_n 0, 1) := by decide +kernel
theorem dX2_mint_13 : decode cX2_mint 13 = .ok (.getfield 30, 3) := by decide +kernel
theorem dX2_mint_16 : decode cX2_mint 16 = .ok (.aload_n 0, 1) := by decide +kernel
theorem dX2_mint_17 : decode cX2_mint 17 = .ok (.aload_n 0, 1) := by decide +kernel
theorem dX2_mint_18 : decode cX2_mint 18 = .ok (.getfield 18, 3) := by decide +kernel
theorem dX2_mint_21 : decode cX2_mint 21 = .ok (.invokevirtual 57, 3) := by decide +kernel
theorem dX2_mint_24 : decode cX2_mint 24 = .ok (.bipush 20, 2) := by decide +kernel
theorem dX2_mint_26 : decode cX2_mint 26 = .ok (.invokevirtual 61, 3) := by decide +kernel
theorem dX2_mint_29 : decode cX2_mint 29 = .ok (.aload_n 0, 1) := by decide +kernel
theorem dX2_mint_30 : decode cX2_mint 30 = .ok (.getfield 18, 3) := by decide +kernel
theorem dX2_mint_33 : decode cX2_mint 33 = .ok (.iconst 1, 1) := by decide +kernel
theorem dX2_mint_34 : decode cX2_mint 34 = .ok (.isub, 1) := by decide +kernel
theorem dX2_mint_35 : decode cX2_mint 35 = .ok (.istore 4, 2) := by decide +kernel
theorem dX2_mint_37 : decode cX2_mint 37 = .ok (.iload 4, 2) := by decide +kernel
theorem dX2_mint_39 : decode cX2_mint 39 = .ok (.iconst 1, 1) := by decide +kernel
theorem dX2_mint_40 : decode cX2_mint 40 = .ok (.if_icmp .lt 35, 3) := by decide +kernel
theorem dX2_mint_43 : decode cX2_mint 43 = .ok (.aload_n 3, 1) := by decide +kernel
theorem dX2_mint_44 : decode cX2_mint 44 = .ok (.aload_n 0, 1) := by decide +kernel
theorem dX2_mint_45 : decode cX2_mint 45 = .ok (.getfield 30, 3) := by decide +kernel
theorem dX2_mint_48 : decode cX2_mint 48 = .ok (.aload_n 0, 1) := by decide +kernel
theorem dX2_mint_49 : decode cX2_mint 49 = .ok (.iload 4, 2) := by decide +kernel
theorem dX2_mint_51 : decode cX2_mint 51 = .ok (.iconst 1, 1) := by decide +kernel
theorem dX2_mint_52 : decode cX2_mint 52 = .ok (.iadd, 1) := by decide +kernel
theorem dX2_mint_53 : decode cX2_mint 53 = .ok (.invokevirtual 57, 3) := by decide +kernel
theorem dX2_mint_56 : decode cX2_mint 56 = .ok (.aload_n 0, 1) := by decide +kernel
theorem dX2_mint_57 : decode cX2_mint 57 = .ok (.getfield 30, 3) := by decide +kernel
theorem dX2_mint_60 : decode cX2_mint 60 = .ok (.aload_n 0, 1) := by decide +kernel
theorem dX2_mint_61 : decode cX2_mint 61 = .ok (.iload 4, 2) := by decide +kernel
theorem dX2_mint_63 : decode cX2_mint 63 = .ok (.invokevirtual 57, 3) := by decide +kernel
theorem dX2_mint_66 : decode cX2_mint 66 = .ok (.invokevirtual 65, 3) := by decide +kernel
theorem dX2_mint_69 : decode cX2_mint 69 = .ok (.iinc 4 (-1), 3) := by decide +kernel
theorem dX2_mint_72 : decode cX2_mint 72 = .ok (.goto (-35), 3) := by decide +kernel
theorem dX2_mint_75 : decode cX2_mint 75 = .ok (.return_, 1) := by decide +kernel
theorem dX2_coinAt_0 : decode cX2_coinAt 0 = .ok (.iload_n 1, 1) := by decide +kernel
theorem dX2_coinAt_1 : decode cX2_coinAt 1 = .ok (.iconst 1, 1) := by decide +kernel
theorem dX2_coinAt_2 : decode cX2_coinAt 2 = .ok (.isub, 1) := by decide +kernel
theorem dX2_coinAt_3 : decode cX2_coinAt 3 = .ok (.bipush 20, 2) := by decide +kernel
theorem dX2_coinAt_5 : decode cX2_coinAt 5 = .ok (.imul, 1) := by decide +kernel
theorem dX2_coinAt_6 : decode cX2_coinAt 6 = .ok (.ireturn, 1) := by decide +kernel
theorem dX2_write_0 : decode cX2_write 0 = .ok (.aload_n 0, 1) := by decide +kernel
theorem dX2_write_1 : decode cX2_write 1 = .ok (.getfield 34, 3) := by decide +kernel
theorem dX2_write_4 : decode cX2_write 4 = .ok (.iconst 0, 1) := by decide +kernel
theorem dX2_write_5 : decode cX2_write 5 = .ok (.iconst 2, 1) := by decide +kernel
theorem dX2_write_6 : decode cX2_write 6 = .ok (.aload_n 0, 1) := by decide +kernel
theorem dX2_write_7 : decode cX2_write 7 = .ok (.getfield 9, 3) := by decide +kernel
theorem dX2_write_10 : decode cX2_write 10 = .ok (.i2l, 1) := by decide +kernel
theorem dX2_write_11 : decode cX2_write 11 = .ok (.invokestatic 69, 3) := by decide +kernel
theorem dX2_write_14 : decode cX2_write 14 = .ok (.aload_n 0, 1) := by decide +kernel
theorem dX2_write_15 : decode cX2_write 15 = .ok (.getfield 34, 3) := by decide +kernel
theorem dX2_write_18 : decode cX2_write 18 = .ok (.iconst 2, 1) := by decide +kernel
theorem dX2_write_19 : decode cX2_write 19 = .ok (.iconst 2, 1) := by decide +kernel
theorem dX2_write_20 : decode cX2_write 20 = .ok (.aload_n 0, 1) := by decide +kernel
theorem dX2_write_21 : decode cX2_write 21 = .ok (.getfield 18, 3) := by decide +kernel
theorem dX2_write_24 : decode cX2_write 24 = .ok (.i2l, 1) := by decide +kernel
theorem dX2_write_25 : decode cX2_write 25 = .ok (.invokestatic 69, 3) := by decide +kernel
theorem dX2_write_28 : decode cX2_write 28 = .ok (.aload_n 0, 1) := by decide +kernel
theorem dX2_write_29 : decode cX2_write 29 = .ok (.getfield 34, 3) := by decide +kernel
theorem dX2_write_32 : decode cX2_write 32 = .ok (.iconst 4, 1) := by decide +kernel
theorem dX2_write_33 : decode cX2_write 33 = .ok (.iconst 2, 1) := by decide +kernel
theorem dX2_write_34 : decode cX2_write 34 = .ok (.aload_n 0, 1) := by decide +kernel
theorem dX2_write_35 : decode cX2_write 35 = .ok (.getfield 21, 3) := by decide +kernel
theorem dX2_write_38 : decode cX2_write 38 = .ok (.i2l, 1) := by decide +kernel
theorem dX2_write_39 : decode cX2_write 39 = .ok (.invokestatic 69, 3) := by decide +kernel
theorem dX2_write_42 : decode cX2_write 42 = .ok (.aload_n 0, 1) := by decide +kernel
theorem dX2_write_43 : decode cX2_write 43 = .ok (.getfield 34, 3) := by decide +kernel
theorem dX2_write_46 : decode cX2_write 46 = .ok (.bipush 6, 2) := by decide +kernel
theorem dX2_write_48 : decode cX2_write 48 = .ok (.iconst 4, 1) := by decide +kernel
theorem dX2_write_49 : decode cX2_write 49 = .ok (.aload_n 0, 1) := by decide +kernel
theorem dX2_write_50 : decode cX2_write 50 = .ok (.getfield 27, 3) := by decide +kernel
theorem dX2_write_53 : decode cX2_write 53 = .ok (.i2l, 1) := by decide +kernel
theorem dX2_write_54 : decode cX2_write 54 = .ok (.invokestatic 69, 3) := by decide +kernel
theorem dX2_write_57 : decode cX2_write 57 = .ok (.aload_n 0, 1) := by decide +kernel
theorem dX2_write_58 : decode cX2_write 58 = .ok (.getfield 34, 3) := by decide +kernel
theorem dX2_write_61 : decode cX2_write 61 = .ok (.bipush 10, 2) := by decide +kernel
theorem dX2_write_63 : decode cX2_write 63 = .ok (.iconst 2, 1) := by decide +kernel
theorem dX2_write_64 : decode cX2_write 64 = .ok (.aload_n 0, 1) := by decide +kernel
theorem dX2_write_65 : decode cX2_write 65 = .ok (.getfield 24, 3) := by decide +kernel
theorem dX2_write_68 : decode cX2_write 68 = .ok (.i2l, 1) := by decide +kernel
theorem dX2_write_69 : decode cX2_write 69 = .ok (.invokestatic 69, 3) := by decide +kernel
theorem dX2_write_72 : decode cX2_write 72 = .ok (.iconst 0, 1) := by decide +kernel
theorem dX2_write_73 : decode cX2_write 73 = .ok (.istore_n 3, 1) := by decide +kernel
theorem dX2_write_74 : decode cX2_write 74 = .ok (.iload_n 3, 1) := by decide +kernel
theorem dX2_write_75 : decode cX2_write 75 = .ok (.bipush 8, 2) := by decide +kernel
theorem dX2_write_77 : decode cX2_write 77 = .ok (.if_icmp .ge 40, 3) := by decide +kernel
theorem dX2_write_80 : decode cX2_write 80 = .ok (.aload_n 0, 1) := by decide +kernel
theorem dX2_write_81 : decode cX2_write 81 = .ok (.iload_n 3, 1) := by decide +kernel
theorem dX2_write_82 : decode cX2_write 82 = .ok (.invokevirtual 73, 3) := by decide +kernel
theorem dX2_write_85 : decode cX2_write 85 = .ok (.ifCond .eq 26, 3) := by decide +kernel
theorem dX2_write_88 : decode cX2_write 88 = .ok (.aload_n 2, 1) := by decide +kernel
theorem dX2_write_89 : decode cX2_write 89 = .ok (.aload_n 0, 1) := by decide +kernel
theorem dX2_write_90 : decode cX2_write 90 = .ok (.getfield 30, 3) := by decide +kernel
theorem dX2_write_93 : decode cX2_write 93 = .ok (.aload_n 0, 1) := by decide +kernel
theorem dX2_write_94 : decode cX2_write 94 = .ok (.iconst 1, 1) := by decide +kernel
theorem dX2_write_95 : decode cX2_write 95 = .ok (.invokevirtual 57, 3) := by decide +kernel
theorem dX2_write_98 : decode cX2_write 98 = .ok (.iload_n 3, 1) := by decide +kernel
theorem dX2_write_99 : decode cX2_write 99 = .ok (.aload_n 0, 1) := by decide +kernel
theorem dX2_write_100 : decode cX2_write 100 = .ok (.getfield 34, 3) := by decide +kernel
theorem dX2_write_103 : decode cX2_write 103 = .ok (.aload_n 0, 1) := by decide +kernel
theorem dX2_write_104 : decode cX2_write 104 = .ok (.iload_n 3, 1) := by decide +kernel
theorem dX2_write_105 : decode cX2_write 105 = .ok (.invokevirtual 77, 3) := by decide +kernel
theorem dX2_write_108 : decode cX2_write 108 = .ok (.invokevirtual 80, 3) := by decide +kernel
theorem dX2_write_111 : decode cX2_write 111 = .ok (.iinc 3 1, 3) := by decide +kernel
theorem dX2_write_114 : decode cX2_write 114 = .ok (.goto (-40), 3) := by decide +kernel
theorem dX2_write_117 : decode cX2_write 117 = .ok (.aload_n 2, 1) := by decide +kernel
theorem dX2_write_118 : decode cX2_write 118 = .ok (.aload_n 1, 1) := by decide +kernel
theorem dX2_write_119 : decode cX2_write 119 = .ok (.aload_n 0, 1) := by decide +kernel
theorem dX2_write_120 : decode cX2_write 120 = .ok (.getfield 34, 3) := by decide +kernel
theorem dX2_write_123 : decode cX2_write 123 = .ok (.sipush 172, 3) := by decide +kernel
theorem dX2_write_126 : decode cX2_write 126 = .ok (.invokevirtual 84, 3) := by decide +kernel
theorem dX2_write_129 : decode cX2_write 129 = .ok (.aload_n 2, 1) := by decide +kernel
theorem dX2_write_130 : decode cX2_write 130 = .ok (.getfield 88, 3) := by decide +kernel
theorem dX2_write_133 : decode cX2_write 133 = .ok (.iconst 0, 1) := by decide +kernel
theorem dX2_write_134 : decode cX2_write 134 = .ok (.aload_n 0, 1) := by decide +kernel
theorem dX2_write_135 : decode cX2_write 135 = .ok (.getfield 34, 3) := by decide +kernel
theorem dX2_write_138 : decode cX2_write 138 = .ok (.sipush 172, 3) := by decide +kernel
theorem dX2_write_141 : decode cX2_write 141 = .ok (.bipush 32, 2) := by decide +kernel
theorem dX2_write_143 : decode cX2_write 143 = .ok (.invokestatic 91, 3) := by decide +kernel
theorem dX2_write_146 : decode cX2_write 146 = .ok (.return_, 1) := by decide +kernel
theorem dX2_isFor_0 : decode cX2_isFor 0 = .ok (.aload_n 0, 1) := by decide +kernel
theorem dX2_isFor_1 : decode cX2_isFor 1 = .ok (.getfield 24, 3) := by decide +kernel
theorem dX2_isFor_4 : decode cX2_isFor 4 = .ok (.iload_n 1, 1) := by decide +kernel
theorem dX2_isFor_5 : decode cX2_isFor 5 = .ok (.ishr, 1) := by decide +kernel
theorem dX2_isFor_6 : decode cX2_isFor 6 = .ok (.iconst 1, 1) := by decide +kernel
theorem dX2_isFor_7 : decode cX2_isFor 7 = .ok (.iand, 1) := by decide +kernel
theorem dX2_isFor_8 : decode cX2_isFor 8 = .ok (.iconst 1, 1) := by decide +kernel
theorem dX2_isFor_9 : decode cX2_isFor 9 = .ok (.if_icmp .ne 7, 3) := by decide +kernel
theorem dX2_isFor_12 : decode cX2_isFor 12 = .ok (.iconst 1, 1) := by decide +kernel
theorem dX2_isFor_13 : decode cX2_isFor 13 = .ok (.goto 4, 3) := by decide +kernel
theorem dX2_isFor_16 : decode cX2_isFor 16 = .ok (.iconst 0, 1) := by decide +kernel
theorem dX2_isFor_17 : decode cX2_isFor 17 = .ok (.ireturn, 1) := by decide +kernel
theorem dX2_headAt_0 : decode cX2_headAt 0 = .ok (.bipush 12, 2) := by decide +kernel
theorem dX2_headAt_2 : decode cX2_headAt 2 = .ok (.iload_n 1, 1) := by decide +kernel
theorem dX2_headAt_3 : decode cX2_headAt 3 = .ok (.bipush 20, 2) := by decide +kernel
theorem dX2_headAt_5 : decode cX2_headAt 5 = .ok (.imul, 1) := by decide +kernel
theorem dX2_headAt_6 : decode cX2_headAt 6 = .ok (.iadd, 1) := by decide +kernel
theorem dX2_headAt_7 : decode cX2_headAt 7 = .ok (.ireturn, 1) := by decide +kernel
theorem dX2_isOver_0 : decode cX2_isOver 0 = .ok (.iload_n 1, 1) := by decide +kernel
theorem dX2_isOver_1 : decode cX2_isOver 1 = .ok (.aload_n 0, 1) := by decide +kernel
theorem dX2_isOver_2 : decode cX2_isOver 2 = .ok (.getfield 27, 3) := by decide +kernel
theorem dX2_isOver_5 : decode cX2_isOver 5 = .ok (.if_icmp .le 7, 3) := by decide +kernel
theorem dX2_isOver_8 : decode cX2_isOver 8 = .ok (.iconst 1, 1) := by decide +kernel
theorem dX2_isOver_9 : decode cX2_isOver 9 = .ok (.goto 4, 3) := by decide +kernel
theorem dX2_isOver_12 : decode cX2_isOver 12 = .ok (.iconst 0, 1) := by decide +kernel
theorem dX2_isOver_13 : decode cX2_isOver 13 = .ok (.ireturn, 1) := by decide +kernel
theorem dX2_hasCoin_0 : decode cX2_hasCoin 0 = .ok (.iload_n 1, 1) := by decide +kernel
theorem dX2_hasCoin_1 : decode cX2_hasCoin 1 = .ok (.iconst 1, 1) := by decide +kernel
theorem dX2_hasCoin_2 : decode cX2_hasCoin 2 = .ok (.aload_n 0, 1) := by decide +kernel
theorem dX2_hasCoin_3 : decode cX2_hasCoin 3 = .ok (.getfield 18, 3) := by decide +kernel
theorem dX2_hasCoin_6 : decode cX2_hasCoin 6 = .ok (.invokestatic 44, 3) := by decide +kernel
theorem dX2_hasCoin_9 : decode cX2_hasCoin 9 = .ok (.ireturn, 1) := by decide +kernel
theorem dX2_settleAt_0 : decode cX2_settleAt 0 = .ok (.aload_n 0, 1) := by decide +kernel
theorem dX2_settleAt_1 : decode cX2_settleAt 1 = .ok (.getfield 37, 3) := by decide +kernel
theorem dX2_settleAt_4 : decode cX2_settleAt 4 = .ok (.iload_n 1, 1) := by decide +kernel
theorem dX2_settleAt_5 : decode cX2_settleAt 5 = .ok (.iaload, 1) := by decide +kernel
theorem dX2_settleAt_6 : decode cX2_settleAt 6 = .ok (.aload_n 0, 1) := by decide +kernel
theorem dX2_settleAt_7 : decode cX2_settleAt 7 = .ok (.getfield 41, 3) := by decide +kernel
theorem dX2_settleAt_10 : decode cX2_settleAt 10 = .ok (.iload_n 1, 1) := by decide +kernel
theorem dX2_settleAt_11 : decode cX2_settleAt 11 = .ok (.iaload, 1) := by decide +kernel
theorem dX2_settleAt_12 : decode cX2_settleAt 12 = .ok (.isub, 1) := by decide +kernel
theorem dX2_settleAt_13 : decode cX2_settleAt 13 = .ok (.istore_n 2, 1) := by decide +kernel
theorem dX2_settleAt_14 : decode cX2_settleAt 14 = .ok (.iload_n 2, 1) := by decide +kernel
theorem dX2_settleAt_15 : decode cX2_settleAt 15 = .ok (.aload_n 0, 1) := by decide +kernel
theorem dX2_settleAt_16 : decode cX2_settleAt 16 = .ok (.getfield 18, 3) := by decide +kernel
theorem dX2_settleAt_19 : decode cX2_settleAt 19 = .ok (.aload_n 0, 1) := by decide +kernel
theorem dX2_settleAt_20 : decode cX2_settleAt 20 = .ok (.getfield 97, 3) := by decide +kernel
theorem dX2_settleAt_23 : decode cX2_settleAt 23 = .ok (.isub, 1) := by decide +kernel
theorem dX2_settleAt_24 : decode cX2_settleAt 24 = .ok (.invokestatic 100, 3) := by decide +kernel
theorem dX2_settleAt_27 : decode cX2_settleAt 27 = .ok (.istore_n 3, 1) := by decide +kernel
theorem dX2_settleAt_28 : decode cX2_settleAt 28 = .ok (.aload_n 0, 1) := by decide +kernel
theorem dX2_settleAt_29 : decode cX2_settleAt 29 = .ok (.getfield 41, 3) := by decide +kernel
theorem dX2_settleAt_32 : decode cX2_settleAt 32 = .ok (.iload_n 1, 1) := by decide +kernel
theorem dX2_settleAt_33 : decode cX2_settleAt 33 = .ok (.aload_n 0, 1) := by decide +kernel
theorem dX2_settleAt_34 : decode cX2_settleAt 34 = .ok (.getfield 37, 3) := by decide +kernel
theorem dX2_settleAt_37 : decode cX2_settleAt 37 = .ok (.iload_n 1, 1) := by decide +kernel
theorem dX2_settleAt_38 : decode cX2_settleAt 38 = .ok (.iaload, 1) := by decide +kernel
theorem dX2_settleAt_39 : decode cX2_settleAt 39 = .ok (.iastore, 1) := by decide +kernel
theorem dX2_settleAt_40 : decode cX2_settleAt 40 = .ok (.aload_n 0, 1) := by decide +kernel
theorem dX2_settleAt_41 : decode cX2_settleAt 41 = .ok (.dup, 1) := by decide +kernel
theorem dX2_settleAt_42 : decode cX2_settleAt 42 = .ok (.getfield 97, 3) := by decide +kernel
theorem dX2_settleAt_45 : decode cX2_settleAt 45 = .ok (.iload_n 3, 1) := by decide +kernel
theorem dX2_settleAt_46 : decode cX2_settleAt 46 = .ok (.iadd, 1) := by decide +kernel
theorem dX2_settleAt_47 : decode cX2_settleAt 47 = .ok (.putfield 97, 3) := by decide +kernel
theorem dX2_settleAt_50 : decode cX2_settleAt 50 = .ok (.iload_n 2, 1) := by decide +kernel
theorem dX2_settleAt_51 : decode cX2_settleAt 51 = .ok (.iload_n 3, 1) := by decide +kernel
theorem dX2_settleAt_52 : decode cX2_settleAt 52 = .ok (.if_icmp .le 20, 3) := by decide +kernel
theorem dX2_settleAt_55 : decode cX2_settleAt 55 = .ok (.aload_n 0, 1) := by decide +kernel
theorem dX2_settleAt_56 : decode cX2_settleAt 56 = .ok (.dup, 1) := by decide +kernel
theorem dX2_settleAt_57 : decode cX2_settleAt 57 = .ok (.getfield 106, 3) := by decide +kernel
theorem dX2_settleAt_60 : decode cX2_settleAt 60 = .ok (.iload_n 2, 1) := by decide +kernel
theorem dX2_settleAt_61 : decode cX2_settleAt 61 = .ok (.iload_n 3, 1) := by decide +kernel
theorem dX2_settleAt_62 : decode cX2_settleAt 62 = .ok (.isub, 1) := by decide +kernel
theorem dX2_settleAt_63 : decode cX2_settleAt 63 = .ok (.iadd, 1) := by decide +kernel
theorem dX2_settleAt_64 : decode cX2_settleAt 64 = .ok (.putfield 106, 3) := by decide +kernel
theorem dX2_settleAt_67 : decode cX2_settleAt 67 = .ok (.aload_n 0, 1) := by decide +kernel
theorem dX2_settleAt_68 : decode cX2_settleAt 68 = .ok (.iconst 1, 1) := by decide +kernel
theorem dX2_settleAt_69 : decode cX2_settleAt 69 = .ok (.putfield 109, 3) := by decide +kernel
theorem dX2_settleAt_72 : decode cX2_settleAt 72 = .ok (.iload_n 3, 1) := by decide +kernel
theorem dX2_settleAt_73 : decode cX2_settleAt 73 = .ok (.i2l, 1) := by decide +kernel
theorem dX2_settleAt_74 : decode cX2_settleAt 74 = .ok (.aload_n 0, 1) := by decide +kernel
theorem dX2_settleAt_75 : decode cX2_settleAt 75 = .ok (.getfield 21, 3) := by decide +kernel
theorem dX2_settleAt_78 : decode cX2_settleAt 78 = .ok (.i2l, 1) := by decide +kernel
theorem dX2_settleAt_79 : decode cX2_settleAt 79 = .ok (.lmul, 1) := by decide +kernel
theorem dX2_settleAt_80 : decode cX2_settleAt 80 = .ok (.lreturn, 1) := by decide +kernel
