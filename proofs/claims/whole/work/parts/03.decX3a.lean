theorem dX3_init_0 : decode cX3_init 0 = .ok (.aload_n 0, 1) := by decide +kernel
theorem dX3_init_1 : decode cX3_init 1 = .ok (.invokespecial 1, 3) := by decide +kernel
theorem dX3_init_4 : decode cX3_init 4 = .ok (.aload_n 0, 1) := by decide +kernel
theorem dX3_init_5 : decode cX3_init 5 = .ok (.new 7, 3) := by decide +kernel
theorem dX3_init_8 : decode cX3_init 8 = .ok (.dup, 1) := by decide +kernel
theorem dX3_init_9 : decode cX3_init 9 = .ok (.invokespecial 9, 3) := by decide +kernel
theorem dX3_init_12 : decode cX3_init 12 = .ok (.putfield 10, 3) := by decide +kernel
theorem dX3_init_15 : decode cX3_init 15 = .ok (.aload_n 0, 1) := by decide +kernel
theorem dX3_init_16 : decode cX3_init 16 = .ok (.bipush 8, 2) := by decide +kernel
theorem dX3_init_18 : decode cX3_init 18 = .ok (.newarray .long, 2) := by decide +kernel
theorem dX3_init_20 : decode cX3_init 20 = .ok (.putfield 16, 3) := by decide +kernel
theorem dX3_init_23 : decode cX3_init 23 = .ok (.aload_n 0, 1) := by decide +kernel
theorem dX3_init_24 : decode cX3_init 24 = .ok (.bipush 16, 2) := by decide +kernel
theorem dX3_init_26 : decode cX3_init 26 = .ok (.anewarray 20, 3) := by decide +kernel
theorem dX3_init_29 : decode cX3_init 29 = .ok (.putfield 22, 3) := by decide +kernel
theorem dX3_init_32 : decode cX3_init 32 = .ok (.aload_n 0, 1) := by decide +kernel
theorem dX3_init_33 : decode cX3_init 33 = .ok (.bipush 8, 2) := by decide +kernel
theorem dX3_init_35 : decode cX3_init 35 = .ok (.anewarray 26, 3) := by decide +kernel
theorem dX3_init_38 : decode cX3_init 38 = .ok (.putfield 28, 3) := by decide +kernel
theorem dX3_init_41 : decode cX3_init 41 = .ok (.iconst 0, 1) := by decide +kernel
theorem dX3_init_42 : decode cX3_init 42 = .ok (.istore_n 1, 1) := by decide +kernel
theorem dX3_init_43 : decode cX3_init 43 = .ok (.iload_n 1, 1) := by decide +kernel
theorem dX3_init_44 : decode cX3_init 44 = .ok (.bipush 8, 2) := by decide +kernel
theorem dX3_init_46 : decode cX3_init 46 = .ok (.if_icmp .ge 23, 3) := by decide +kernel
theorem dX3_init_49 : decode cX3_init 49 = .ok (.aload_n 0, 1) := by decide +kernel
theorem dX3_init_50 : decode cX3_init 50 = .ok (.getfield 28, 3) := by decide +kernel
theorem dX3_init_53 : decode cX3_init 53 = .ok (.iload_n 1, 1) := by decide +kernel
theorem dX3_init_54 : decode cX3_init 54 = .ok (.new 26, 3) := by decide +kernel
theorem dX3_init_57 : decode cX3_init 57 = .ok (.dup, 1) := by decide +kernel
theorem dX3_init_58 : decode cX3_init 58 = .ok (.iload_n 1, 1) := by decide +kernel
theorem dX3_init_59 : decode cX3_init 59 = .ok (.invokespecial 32, 3) := by decide +kernel
theorem dX3_init_62 : decode cX3_init 62 = .ok (.aastore, 1) := by decide +kernel
theorem dX3_init_63 : decode cX3_init 63 = .ok (.iinc 1 1, 3) := by decide +kernel
theorem dX3_init_66 : decode cX3_init 66 = .ok (.goto (-23), 3) := by decide +kernel
theorem dX3_init_69 : decode cX3_init 69 = .ok (.aload_n 0, 1) := by decide +kernel
theorem dX3_init_70 : decode cX3_init 70 = .ok (.bipush 20, 2) := by decide +kernel
theorem dX3_init_72 : decode cX3_init 72 = .ok (.newarray .byte, 2) := by decide +kernel
theorem dX3_init_74 : decode cX3_init 74 = .ok (.putfield 35, 3) := by decide +kernel
theorem dX3_init_77 : decode cX3_init 77 = .ok (.aload_n 0, 1) := by decide +kernel
theorem dX3_init_78 : decode cX3_init 78 = .ok (.bipush 16, 2) := by decide +kernel
theorem dX3_init_80 : decode cX3_init 80 = .ok (.newarray .byte, 2) := by decide +kernel
theorem dX3_init_82 : decode cX3_init 82 = .ok (.putfield 39, 3) := by decide +kernel
theorem dX3_init_85 : decode cX3_init 85 = .ok (.aload_n 0, 1) := by decide +kernel
theorem dX3_init_86 : decode cX3_init 86 = .ok (.bipush 16, 2) := by decide +kernel
theorem dX3_init_88 : decode cX3_init 88 = .ok (.newarray .byte, 2) := by decide +kernel
theorem dX3_init_90 : decode cX3_init 90 = .ok (.putfield 42, 3) := by decide +kernel
theorem dX3_init_93 : decode cX3_init 93 = .ok (.return_, 1) := by decide +kernel
theorem dX3_newWeek_0 : decode cX3_newWeek 0 = .ok (.aload_n 0, 1) := by decide +kernel
theorem dX3_newWeek_1 : decode cX3_newWeek 1 = .ok (.getfield 39, 3) := by decide +kernel
theorem dX3_newWeek_4 : decode cX3_newWeek 4 = .ok (.iconst 0, 1) := by decide +kernel
theorem dX3_newWeek_5 : decode cX3_newWeek 5 = .ok (.aload_n 0, 1) := by decide +kernel
theorem dX3_newWeek_6 : decode cX3_newWeek 6 = .ok (.getfield 42, 3) := by decide +kernel
theorem dX3_newWeek_9 : decode cX3_newWeek 9 = .ok (.iconst 0, 1) := by decide +kernel
theorem dX3_newWeek_10 : decode cX3_newWeek 10 = .ok (.bipush 16, 2) := by decide +kernel
theorem dX3_newWeek_12 : decode cX3_newWeek 12 = .ok (.invokestatic 45, 3) := by decide +kernel
theorem dX3_newWeek_15 : decode cX3_newWeek 15 = .ok (.aload_n 0, 1) := by decide +kernel
theorem dX3_newWeek_16 : decode cX3_newWeek 16 = .ok (.getfield 39, 3) := by decide +kernel
theorem dX3_newWeek_19 : decode cX3_newWeek 19 = .ok (.iconst 0, 1) := by decide +kernel
theorem dX3_newWeek_20 : decode cX3_newWeek 20 = .ok (.bipush 8, 2) := by decide +kernel
theorem dX3_newWeek_22 : decode cX3_newWeek 22 = .ok (.lload_n 1, 1) := by decide +kernel
theorem dX3_newWeek_23 : decode cX3_newWeek 23 = .ok (.invokestatic 51, 3) := by decide +kernel
theorem dX3_newWeek_26 : decode cX3_newWeek 26 = .ok (.aload_n 0, 1) := by decide +kernel
theorem dX3_newWeek_27 : decode cX3_newWeek 27 = .ok (.getfield 39, 3) := by decide +kernel
theorem dX3_newWeek_30 : decode cX3_newWeek 30 = .ok (.bipush 8, 2) := by decide +kernel
theorem dX3_newWeek_32 : decode cX3_newWeek 32 = .ok (.bipush 8, 2) := by decide +kernel
theorem dX3_newWeek_34 : decode cX3_newWeek 34 = .ok (.lload_n 3, 1) := by decide +kernel
theorem dX3_newWeek_35 : decode cX3_newWeek 35 = .ok (.invokestatic 51, 3) := by decide +kernel
theorem dX3_newWeek_38 : decode cX3_newWeek 38 = .ok (.aload_n 0, 1) := by decide +kernel
theorem dX3_newWeek_39 : decode cX3_newWeek 39 = .ok (.dup, 1) := by decide +kernel
theorem dX3_newWeek_40 : decode cX3_newWeek 40 = .ok (.getfield 55, 3) := by decide +kernel
theorem dX3_newWeek_43 : decode cX3_newWeek 43 = .ok (.iconst 1, 1) := by decide +kernel
theorem dX3_newWeek_44 : decode cX3_newWeek 44 = .ok (.iadd, 1) := by decide +kernel
theorem dX3_newWeek_45 : decode cX3_newWeek 45 = .ok (.putfield 55, 3) := by decide +kernel
theorem dX3_newWeek_48 : decode cX3_newWeek 48 = .ok (.aload_n 0, 1) := by decide +kernel
theorem dX3_newWeek_49 : decode cX3_newWeek 49 = .ok (.getfield 55, 3) := by decide +kernel
theorem dX3_newWeek_52 : decode cX3_newWeek 52 = .ok (.ireturn, 1) := by decide +kernel
theorem dX3_writeNumber_0 : decode cX3_writeNumber 0 = .ok (.iconst 0, 1) := by decide +kernel
theorem dX3_writeNumber_1 : decode cX3_writeNumber 1 = .ok (.istore 5, 2) := by decide +kernel
theorem dX3_writeNumber_3 : decode cX3_writeNumber 3 = .ok (.iload 5, 2) := by decide +kernel
theorem dX3_writeNumber_5 : decode cX3_writeNumber 5 = .ok (.iload_n 2, 1) := by decide +kernel
theorem dX3_writeNumber_6 : decode cX3_writeNumber 6 = .ok (.if_icmp .ge 28, 3) := by decide +kernel
theorem dX3_writeNumber_9 : decode cX3_writeNumber 9 = .ok (.aload_n 0, 1) := by decide +kernel
theorem dX3_writeNumber_10 : decode cX3_writeNumber 10 = .ok (.iload_n 1, 1) := by decide +kernel
theorem dX3_writeNumber_11 : decode cX3_writeNumber 11 = .ok (.iload 5, 2) := by decide +kernel
theorem dX3_writeNumber_13 : decode cX3_writeNumber 13 = .ok (.iadd, 1) := by decide +kernel
theorem dX3_writeNumber_14 : decode cX3_writeNumber 14 = .ok (.lload_n 3, 1) := by decide +kernel
theorem dX3_writeNumber_15 : decode cX3_writeNumber 15 = .ok (.bipush 8, 2) := by decide +kernel
theorem dX3_writeNumber_17 : decode cX3_writeNumber 17 = .ok (.iload_n 2, 1) := by decide +kernel
theorem dX3_writeNumber_18 : decode cX3_writeNumber 18 = .ok (.iconst 1, 1) := by decide +kernel
theorem dX3_writeNumber_19 : decode cX3_writeNumber 19 = .ok (.isub, 1) := by decide +kernel
theorem dX3_writeNumber_20 : decode cX3_writeNumber 20 = .ok (.iload 5, 2) := by decide +kernel
theorem dX3_writeNumber_22 : decode cX3_writeNumber 22 = .ok (.isub, 1) := by decide +kernel
theorem dX3_writeNumber_23 : decode cX3_writeNumber 23 = .ok (.imul, 1) := by decide +kernel
theorem dX3_writeNumber_24 : decode cX3_writeNumber 24 = .ok (.lushr, 1) := by decide +kernel
theorem dX3_writeNumber_25 : decode cX3_writeNumber 25 = .ok (.l2i, 1) := by decide +kernel
theorem dX3_writeNumber_26 : decode cX3_writeNumber 26 = .ok (.i2b, 1) := by decide +kernel
theorem dX3_writeNumber_27 : decode cX3_writeNumber 27 = .ok (.bastore, 1) := by decide +kernel
theorem dX3_writeNumber_28 : decode cX3_writeNumber 28 = .ok (.iinc 5 1, 3) := by decide +kernel
theorem dX3_writeNumber_31 : decode cX3_writeNumber 31 = .ok (.goto (-28), 3) := by decide +kernel
theorem dX3_writeNumber_34 : decode cX3_writeNumber 34 = .ok (.return_, 1) := by decide +kernel
theorem dX3_today_0 : decode cX3_today 0 = .ok (.iload_n 1, 1) := by decide +kernel
theorem dX3_today_1 : decode cX3_today 1 = .ok (.aload_n 0, 1) := by decide +kernel
theorem dX3_today_2 : decode cX3_today 2 = .ok (.getfield 59, 3) := by decide +kernel
theorem dX3_today_5 : decode cX3_today 5 = .ok (.if_icmp .lt 9, 3) := by decide +kernel
theorem dX3_today_8 : decode cX3_today 8 = .ok (.iload_n 1, 1) := by decide +kernel
theorem dX3_today_9 : decode cX3_today 9 = .ok (.ldc 62, 2) := by decide +kernel
theorem dX3_today_11 : decode cX3_today 11 = .ok (.if_icmp .le 5, 3) := by decide +kernel
theorem dX3_today_14 : decode cX3_today 14 = .ok (.iconst 0, 1) := by decide +kernel
theorem dX3_today_15 : decode cX3_today 15 = .ok (.ireturn, 1) := by decide +kernel
theorem dX3_today_16 : decode cX3_today 16 = .ok (.iload_n 1, 1) := by decide +kernel
theorem dX3_today_17 : decode cX3_today 17 = .ok (.aload_n 0, 1) := by decide +kernel
theorem dX3_today_18 : decode cX3_today 18 = .ok (.getfield 59, 3) := by decide +kernel
theorem dX3_today_21 : decode cX3_today 21 = .ok (.if_icmp .le 31, 3) := by decide +kernel
theorem dX3_today_24 : decode cX3_today 24 = .ok (.aload_n 0, 1) := by decide +kernel
theorem dX3_today_25 : decode cX3_today 25 = .ok (.iload_n 1, 1) := by decide +kernel
theorem dX3_today_26 : decode cX3_today 26 = .ok (.putfield 59, 3) := by decide +kernel
theorem dX3_today_29 : decode cX3_today 29 = .ok (.iconst 0, 1) := by decide +kernel
theorem dX3_today_30 : decode cX3_today 30 = .ok (.istore_n 2, 1) := by decide +kernel
theorem dX3_today_31 : decode cX3_today 31 = .ok (.iload_n 2, 1) := by decide +kernel
theorem dX3_today_32 : decode cX3_today 32 = .ok (.bipush 8, 2) := by decide +kernel
theorem dX3_today_34 : decode cX3_today 34 = .ok (.if_icmp .ge 18, 3) := by decide +kernel
theorem dX3_today_37 : decode cX3_today 37 = .ok (.aload_n 0, 1) := by decide +kernel
theorem dX3_today_38 : decode cX3_today 38 = .ok (.getfield 28, 3) := by decide +kernel
theorem dX3_today_41 : decode cX3_today 41 = .ok (.iload_n 2, 1) := by decide +kernel
theorem dX3_today_42 : decode cX3_today 42 = .ok (.aaload, 1) := by decide +kernel
theorem dX3_today_43 : decode cX3_today 43 = .ok (.invokevirtual 63, 3) := by decide +kernel
theorem dX3_today_46 : decode cX3_today 46 = .ok (.iinc 2 1, 3) := by decide +kernel
theorem dX3_today_49 : decode cX3_today 49 = .ok (.goto (-18), 3) := by decide +kernel
theorem dX3_today_52 : decode cX3_today 52 = .ok (.iconst 1, 1) := by decide +kernel
theorem dX3_today_53 : decode cX3_today 53 = .ok (.ireturn, 1) := by decide +kernel
theorem dX3_money_0 : decode cX3_money 0 = .ok (.iload_n 1, 1) := by decide +kernel
theorem dX3_money_1 : decode cX3_money 1 = .ok (.invokestatic 66, 3) := by decide +kernel
theorem dX3_money_4 : decode cX3_money 4 = .ok (.ifCond .eq 17, 3) := by decide +kernel
theorem dX3_money_7 : decode cX3_money 7 = .ok (.lload_n 2, 1) := by decide +kernel
theorem dX3_money_8 : decode cX3_money 8 = .ok (.lconst 1, 1) := by decide +kernel
theorem dX3_money_9 : decode cX3_money 9 = .ok (.lcmp, 1) := by decide +kernel
theorem dX3_money_10 : decode cX3_money 10 = .ok (.ifCond .lt 11, 3) := by decide +kernel
theorem dX3_money_13 : decode cX3_money 13 = .ok (.lload_n 2, 1) := by decide +kernel
theorem dX3_money_14 : decode cX3_money 14 = .ok (.ldc2_w 70, 3) := by decide +kernel
theorem dX3_money_17 : decode cX3_money 17 = .ok (.lcmp, 1) := by decide +kernel
theorem dX3_money_18 : decode cX3_money 18 = .ok (.ifCond .le 5, 3) := by decide +kernel
theorem dX3_money_21 : decode cX3_money 21 = .ok (.iconst 0, 1) := by decide +kernel
theorem dX3_money_22 : decode cX3_money 22 = .ok (.ireturn, 1) := by decide +kernel
theorem dX3_money_23 : decode cX3_money 23 = .ok (.aload_n 0, 1) := by decide +kernel
theorem dX3_money_24 : decode cX3_money 24 = .ok (.getfield 16, 3) := by decide +kernel
theorem dX3_money_27 : decode cX3_money 27 = .ok (.iload_n 1, 1) := by decide +kernel
theorem dX3_money_28 : decode cX3_money 28 = .ok (.dup2, 1) := by decide +kernel
theorem dX3_money_29 : decode cX3_money 29 = .ok (.laload, 1) := by decide +kernel
theorem dX3_money_30 : decode cX3_money 30 = .ok (.lload_n 2, 1) := by decide +kernel
theorem dX3_money_31 : decode cX3_money 31 = .ok (.ladd, 1) := by decide +kernel
theorem dX3_money_32 : decode cX3_money 32 = .ok (.lastore, 1) := by decide +kernel
theorem dX3_money_33 : decode cX3_money 33 = .ok (.iconst 1, 1) := by decide +kernel
theorem dX3_money_34 : decode cX3_money 34 = .ok (.ireturn, 1) := by decide +kernel
theorem dX3_isMotorist_0 : decode cX3_isMotorist 0 = .ok (.iload_n 0, 1) := by decide +kernel
theorem dX3_isMotorist_1 : decode cX3_isMotorist 1 = .ok (.iconst 0, 1) := by decide +kernel
theorem dX3_isMotorist_2 : decode cX3_isMotorist 2 = .ok (.bipush 7, 2) := by decide +kernel
theorem dX3_isMotorist_4 : decode cX3_isMotorist 4 = .ok (.invokestatic 75, 3) := by decide +kernel
theorem dX3_isMotorist_7 : decode cX3_isMotorist 7 = .ok (.ireturn, 1) := by decide +kernel
theorem dX3_isWithin_0 : decode cX3_isWithin 0 = .ok (.iload_n 0, 1) := by decide +kernel
theorem dX3_isWithin_1 : decode cX3_isWithin 1 = .ok (.iload_n 1, 1) := by decide +kernel
theorem dX3_isWithin_2 : decode cX3_isWithin 2 = .ok (.if_icmp .lt 12, 3) := by decide +kernel
theorem dX3_isWithin_5 : decode cX3_isWithin 5 = .ok (.iload_n 0, 1) := by decide +kernel
theorem dX3_isWithin_6 : decode cX3_isWithin 6 = .ok (.iload_n 2, 1) := by decide +kernel
theorem dX3_isWithin_7 : decode cX3_isWithin 7 = .ok (.if_icmp .gt 7, 3) := by decide +kernel
theorem dX3_isWithin_10 : decode cX3_isWithin 10 = .ok (.iconst 1, 1) := by decide +kernel
theorem dX3_isWithin_11 : decode cX3_isWithin 11 = .ok (.goto 4, 3) := by decide +kernel
theorem dX3_isWithin_14 : decode cX3_isWithin 14 = .ok (.iconst 0, 1) := by decide +kernel
theorem dX3_isWithin_15 : decode cX3_isWithin 15 = .ok (.ireturn, 1) := by decide +kernel
theorem dX3_buy_0 : decode cX3_buy 0 = .ok (.iload_n 1, 1) := by decide +kernel
theorem dX3_buy_1 : decode cX3_buy 1 = .ok (.invokestatic 66, 3) := by decide +kernel
theorem dX3_buy_4 : decode cX3_buy 4 = .ok (.ifCond .eq 19, 3) := by decide +kernel
theorem dX3_buy_7 : decode cX3_buy 7 = .ok (.aload_n 0, 1) := by decide +kernel
theorem dX3_buy_8 : decode cX3_buy 8 = .ok (.getfield 55, 3) := by decide +kernel
theorem dX3_buy_11 : decode cX3_buy 11 = .ok (.ifCond .eq 12, 3) := by decide +kernel
theorem dX3_buy_14 : decode cX3_buy 14 = .ok (.aload_n 0, 1) := by decide +kernel
theorem dX3_buy_15 : decode cX3_buy 15 = .ok (.getfield 72, 3) := by decide +kernel
theorem dX3_buy_18 : decode cX3_buy 18 = .ok (.bipush 16, 2) := by decide +kernel
theorem dX3_buy_20 : decode cX3_buy 20 = .ok (.if_icmp .lt 5, 3) := by decide +kernel
theorem dX3_buy_23 : decode cX3_buy 23 = .ok (.iconst (-1), 1) := by decide +kernel
theorem dX3_buy_24 : decode cX3_buy 24 = .ok (.ireturn, 1) := by decide +kernel
theorem dX3_buy_25 : decode cX3_buy 25 = .ok (.iload_n 2, 1) := by decide +kernel
theorem dX3_buy_26 : decode cX3_buy 26 = .ok (.iconst 1, 1) := by decide +kernel
theorem dX3_buy_27 : decode cX3_buy 27 = .ok (.bipush 60, 2) := by decide +kernel
theorem dX3_buy_29 : decode cX3_buy 29 = .ok (.invokestatic 75, 3) := by decide +kernel
theorem dX3_buy_32 : decode cX3_buy 32 = .ok (.ifCond .eq 14, 3) := by decide +kernel
theorem dX3_buy_35 : decode cX3_buy 35 = .ok (.iload_n 3, 1) := by decide +kernel
theorem dX3_buy_36 : decode cX3_buy 36 = .ok (.iconst 1, 1) := by decide +kernel
theorem dX3_buy_37 : decode cX3_buy 37 = .ok (.sipush 1000, 3) := by decide +kernel
theorem dX3_buy_40 : decode cX3_buy 40 = .ok (.invokestatic 75, 3) := by decide +kernel
theorem dX3_buy_43 : decode cX3_buy 43 = .ok (.ifCond .ne 5, 3) := by decide +kernel
theorem dX3_buy_46 : decode cX3_buy 46 = .ok (.iconst (-1), 1) := by decide +kernel
theorem dX3_buy_47 : decode cX3_buy 47 = .ok (.ireturn, 1) := by decide +kernel
theorem dX3_buy_48 : decode cX3_buy 48 = .ok (.iload 4, 2) := by decide +kernel
theorem dX3_buy_50 : decode cX3_buy 50 = .ok (.iconst 1, 1) := by decide +kernel
theorem dX3_buy_51 : decode cX3_buy 51 = .ok (.sipush 255, 3) := by decide +kernel
theorem dX3_buy_54 : decode cX3_buy 54 = .ok (.invokestatic 75, 3) := by decide +kernel
theorem dX3_buy_57 : decode cX3_buy 57 = .ok (.ifCond .eq 14, 3) := by decide +kernel
theorem dX3_buy_60 : decode cX3_buy 60 = .ok (.iload 7, 2) := by decide +kernel
theorem dX3_buy_62 : decode cX3_buy 62 = .ok (.iconst 1, 1) := by decide +kernel
theorem dX3_buy_63 : decode cX3_buy 63 = .ok (.bipush 60, 2) := by decide +kernel
theorem dX3_buy_65 : decode cX3_buy 65 = .ok (.invokestatic 75, 3) := by decide +kernel
theorem dX3_buy_68 : decode cX3_buy 68 = .ok (.ifCond .ne 5, 3) := by decide +kernel
theorem dX3_buy_71 : decode cX3_buy 71 = .ok (.iconst (-1), 1) := by decide +kernel
theorem dX3_buy_72 : decode cX3_buy 72 = .ok (.ireturn, 1) := by decide +kernel
theorem dX3_buy_73 : decode cX3_buy 73 = .ok (.iload_n 2, 1) := by decide +kernel
theorem dX3_buy_74 : decode cX3_buy 74 = .ok (.i2l, 1) := by decide +kernel
theorem dX3_buy_75 : decode cX3_buy 75 = .ok (.iload_n 3, 1) := by decide +kernel
theorem dX3_buy_76 : decode cX3_buy 76 = .ok (.i2l, 1) := by decide +kernel
theorem dX3_buy_77 : decode cX3_buy 77 = .ok (.lmul, 1) := by decide +kernel
theorem dX3_buy_78 : decode cX3_buy 78 = .ok (.lstore 8, 2) := by decide +kernel
theorem dX3_buy_80 : decode cX3_buy 80 = .ok (.aload_n 0, 1) := by decide +kernel
theorem dX3_buy_81 : decode cX3_buy 81 = .ok (.getfield 16, 3) := by decide +kernel
theorem dX3_buy_84 : decode cX3_buy 84 = .ok (.iload_n 1, 1) := by decide +kernel
theorem dX3_buy_85 : decode cX3_buy 85 = .ok (.laload, 1) := by decide +kernel
theorem dX3_buy_86 : decode cX3_buy 86 = .ok (.lload 8, 2) := by decide +kernel
theorem dX3_buy_88 : decode cX3_buy 88 = .ok (.lcmp, 1) := by decide +kernel
theorem dX3_buy_89 : decode cX3_buy 89 = .ok (.ifCond .ge 5, 3) := by decide +kernel
theorem dX3_buy_92 : decode cX3_buy 92 = .ok (.iconst (-1), 1) := by decide +kernel
theorem dX3_buy_93 : decode cX3_buy 93 = .ok (.ireturn, 1) := by decide +kernel
theorem dX3_buy_94 : decode cX3_buy 94 = .ok (.new 20, 3) := by decide +kernel
theorem dX3_buy_97 : decode cX3_buy 97 = .ok (.dup, 1) := by decide +kernel
theorem dX3_buy_98 : decode cX3_buy 98 = .ok (.aload_n 0, 1) := by decide +kernel
theorem dX3_buy_99 : decode cX3_buy 99 = .ok (.getfield 72, 3) := by decide +kernel
theorem dX3_buy_102 : decode cX3_buy 102 = .ok (.iload_n 1, 1) := by decide +kernel
theorem dX3_buy_103 : decode cX3_buy 103 = .ok (.iload_n 2, 1) := by decide +kernel
theorem dX3_buy_104 : decode cX3_buy 104 = .ok (.iload_n 3, 1) := by decide +kernel
theorem dX3_buy_105 : decode cX3_buy 105 = .ok (.iload 4, 2) := by decide +kernel
theorem dX3_buy_107 : decode cX3_buy 107 = .ok (.aload_n 0, 1) := by decide +kernel
theorem dX3_buy_108 : decode cX3_buy 108 = .ok (.getfield 59, 3) := by decide +kernel
theorem dX3_buy_111 : decode cX3_buy 111 = .ok (.iload 7, 2) := by decide +kernel
theorem dX3_buy_113 : decode cX3_buy 113 = .ok (.iadd, 1) := by decide +kernel
theorem dX3_buy_114 : decode cX3_buy 114 = .ok (.invokespecial 79, 3) := by decide +kernel
theorem dX3_buy_117 : decode cX3_buy 117 = .ok (.astore 10, 2) := by decide +kernel
theorem dX3_buy_119 : decode cX3_buy 119 = .ok (.aload 10, 2) := by decide +kernel
theorem dX3_buy_121 : decode cX3_buy 121 = .ok (.lload 5, 2) := by decide +kernel
theorem dX3_buy_123 : decode cX3_buy 123 = .ok (.aload_n 0, 1) := by decide +kernel
theorem dX3_buy_124 : decode cX3_buy 124 = .ok (.getfield 10, 3) := by decide +kernel
theorem dX3_buy_127 : decode cX3_buy 127 = .ok (.invokevirtual 82, 3) := by decide +kernel
theorem dX3_buy_130 : decode cX3_buy 130 = .ok (.aload 10, 2) := by decide +kernel
theorem dX3_buy_132 : decode cX3_buy 132 = .ok (.aload_n 0, 1) := by decide +kernel
theorem dX3_buy_133 : decode cX3_buy 133 = .ok (.getfield 39, 3) := by decide +kernel
theorem dX3_buy_136 : decode cX3_buy 136 = .ok (.aload_n 0, 1) := by decide +kernel
theorem dX3_buy_137 : decode cX3_buy 137 = .ok (.getfield 10, 3) := by decide +kernel
theorem dX3_buy_140 : decode cX3_buy 140 = .ok (.invokevirtual 86, 3) := by decide +kernel
theorem dX3_buy_143 : decode cX3_buy 143 = .ok (.aload_n 0, 1) := by decide +kernel
theorem dX3_buy_144 : decode cX3_buy 144 = .ok (.getfield 22, 3) := by decide +kernel
theorem dX3_buy_147 : decode cX3_buy 147 = .ok (.aload_n 0, 1) := by decide +kernel
theorem dX3_buy_148 : decode cX3_buy 148 = .ok (.getfield 72, 3) := by decide +kernel
theorem dX3_buy_151 : decode cX3_buy 151 = .ok (.aload 10, 2) := by decide +kernel
theorem dX3_buy_153 : decode cX3_buy 153 = .ok (.aastore, 1) := by decide +kernel
theorem dX3_buy_154 : decode cX3_buy 154 = .ok (.aload_n 0, 1) := by decide +kernel
theorem dX3_buy_155 : decode cX3_buy 155 = .ok (.dup, 1) := by decide +kernel
theorem dX3_buy_156 : decode cX3_buy 156 = .ok (.getfield 72, 3) := by decide +kernel
theorem dX3_buy_159 : decode cX3_buy 159 = .ok (.iconst 1, 1) := by decide +kernel
theorem dX3_buy_160 : decode cX3_buy 160 = .ok (.iadd, 1) := by decide +kernel
theorem dX3_buy_161 : decode cX3_buy 161 = .ok (.putfield 72, 3) := by decide +kernel
theorem dX3_buy_164 : decode cX3_buy 164 = .ok (.aload_n 0, 1) := by decide +kernel
theorem dX3_buy_165 : decode cX3_buy 165 = .ok (.getfield 16, 3) := by decide +kernel
theorem dX3_buy_168 : decode cX3_buy 168 = .ok (.iload_n 1, 1) := by decide +kernel
theorem dX3_buy_169 : decode cX3_buy 169 = .ok (.dup2, 1) := by decide +kernel
theorem dX3_buy_170 : decode cX3_buy 170 = .ok (.laload, 1) := by decide +kernel
theorem dX3_buy_171 : decode cX3_buy 171 = .ok (.lload 8, 2) := by decide +kernel
theorem dX3_buy_173 : decode cX3_buy 173 = .ok (.lsub, 1) := by decide +kernel
theorem dX3_buy_174 : decode cX3_buy 174 = .ok (.lastore, 1) := by decide +kernel
theorem dX3_buy_175 : decode cX3_buy 175 = .ok (.aload_n 0, 1) := by decide +kernel
theorem dX3_buy_176 : decode cX3_buy 176 = .ok (.dup, 1) := by decide +kernel
theorem dX3_buy_177 : decode cX3_buy 177 = .ok (.getfield 90, 3) := by decide +kernel
theorem dX3_buy_180 : decode cX3_buy 180 = .ok (.lload 8, 2) := by decide +kernel
theorem dX3_buy_182 : decode cX3_buy 182 = .ok (.ladd, 1) := by decide +kernel
theorem dX3_buy_183 : decode cX3_buy 183 = .ok (.putfield 90, 3) := by decide +kernel
theorem dX3_buy_186 : decode cX3_buy 186 = .ok (.aload 10, 2) := by decide +kernel
theorem dX3_buy_188 : decode cX3_buy 188 = .ok (.getfield 94, 3) := by decide +kernel
theorem dX3_buy_191 : decode cX3_buy 191 = .ok (.ireturn, 1) := by decide +kernel
theorem dX3_insert_0 : decode cX3_insert 0 = .ok (.aload_n 0, 1) := by decide +kernel
theorem dX3_insert_1 : decode cX3_insert 1 = .ok (.iload_n 1, 1) := by decide +kernel
theorem dX3_insert_2 : decode cX3_insert 2 = .ok (.invokevirtual 97, 3) := by decide +kernel
theorem dX3_insert_5 : decode cX3_insert 5 = .ok (.astore_n 3, 1) := by decide +kernel
theorem dX3_insert_6 : decode cX3_insert 6 = .ok (.aload_n 0, 1) := by decide +kernel
theorem dX3_insert_7 : decode cX3_insert 7 = .ok (.iload_n 2, 1) := by decide +kernel
theorem dX3_insert_8 : decode cX3_insert 8 = .ok (.invokevirtual 101, 3) := by decide +kernel
theorem dX3_insert_11 : decode cX3_insert 11 = .ok (.astore 4, 2) := by decide +kernel
theorem dX3_insert_13 : decode cX3_insert 13 = .ok (.aload_n 3, 1) := by decide +kernel
theorem dX3_insert_14 : decode cX3_insert 14 = .ok (.ifnull 8, 3) := by decide +kernel
theorem dX3_insert_17 : decode cX3_insert 17 = .ok (.aload 4, 2) := by decide +kernel
theorem dX3_insert_19 : decode cX3_insert 19 = .ok (.ifnonnull 5, 3) := by decide +kernel
theorem dX3_insert_22 : decode cX3_insert 22 = .ok (.iconst (-1), 1) := by decide +kernel
theorem dX3_insert_23 : decode cX3_insert 23 = .ok (.ireturn, 1) := by decide +kernel
theorem dX3_insert_24 : decode cX3_insert 24 = .ok (.aload 4, 2) := by decide +kernel
theorem dX3_insert_26 : decode cX3_insert 26 = .ok (.aload_n 3, 1) := by decide +kernel
theorem dX3_insert_27 : decode cX3_insert 27 = .ok (.aload_n 0, 1) := by decide +kernel
theorem dX3_insert_28 : decode cX3_insert 28 = .ok (.getfield 59, 3) := by decide +kernel
theorem dX3_insert_31 : decode cX3_insert 31 = .ok (.aload_n 0, 1) := by decide +kernel
theorem dX3_insert_32 : decode cX3_insert 32 = .ok (.getfield 10, 3) := by decide +kernel
theorem dX3_insert_35 : decode cX3_insert 35 = .ok (.invokevirtual 105, 3) := by decide +kernel
theorem dX3_insert_38 : decode cX3_insert 38 = .ok (.istore 5, 2) := by decide +kernel
theorem dX3_insert_40 : decode cX3_insert 40 = .ok (.iload 5, 2) := by decide +kernel
theorem dX3_insert_42 : decode cX3_insert 42 = .ok (.ifCond .eq 6, 3) := by decide +kernel
theorem dX3_insert_45 : decode cX3_insert 45 = .ok (.iload 5, 2) := by decide +kernel
theorem dX3_insert_47 : decode cX3_insert 47 = .ok (.ireturn, 1) := by decide +kernel
theorem dX3_insert_48 : decode cX3_insert 48 = .ok (.aload 4, 2) := by decide +kernel
theorem dX3_insert_50 : decode cX3_insert 50 = .ok (.invokevirtual 109, 3) := by decide +kernel
theorem dX3_insert_53 : decode cX3_insert 53 = .ok (.ifCond .ne 6, 3) := by decide +kernel
theorem dX3_insert_56 : decode cX3_insert 56 = .ok (.bipush (-5), 2) := by decide +kernel
theorem dX3_insert_58 : decode cX3_insert 58 = .ok (.ireturn, 1) := by decide +kernel
theorem dX3_insert_59 : decode cX3_insert 59 = .ok (.aload 4, 2) := by decide +kernel
theorem dX3_insert_61 : decode cX3_insert 61 = .ok (.aload_n 3, 1) := by decide +kernel
theorem dX3_insert_62 : decode cX3_insert 62 = .ok (.invokevirtual 113, 3) := by decide +kernel
theorem dX3_insert_65 : decode cX3_insert 65 = .ok (.iconst 0, 1) := by decide +kernel
theorem dX3_insert_66 : decode cX3_insert 66 = .ok (.ireturn, 1) := by decide +kernel
theorem dX3_scrollOf_0 : decode cX3_scrollOf 0 = .ok (.iload_n 1, 1) := by decide +kernel
theorem dX3_scrollOf_1 : decode cX3_scrollOf 1 = .ok (.iconst 0, 1) := by decide +kernel
theorem dX3_scrollOf_2 : decode cX3_scrollOf 2 = .ok (.aload_n 0, 1) := by decide +kernel
theorem dX3_scrollOf_3 : decode cX3_scrollOf 3 = .ok (.getfield 72, 3) := by decide +kernel
theorem dX3_scrollOf_6 : decode cX3_scrollOf 6 = .ok (.iconst 1, 1) := by decide +kernel
theorem dX3_scrollOf_7 : decode cX3_scrollOf 7 = .ok (.isub, 1) := by decide +kernel
theorem dX3_scrollOf_8 : decode cX3_scrollOf 8 = .ok (.invokestatic 75, 3) := by decide +kernel
theorem dX3_scrollOf_11 : decode cX3_scrollOf 11 = .ok (.ifCond .eq 12, 3) := by decide +kernel
theorem dX3_scrollOf_14 : decode cX3_scrollOf 14 = .ok (.aload_n 0, 1) := by decide +kernel
theorem dX3_scrollOf_15 : decode cX3_scrollOf 15 = .ok (.getfield 22, 3) := by decide +kernel
theorem dX3_scrollOf_18 : decode cX3_scrollOf 18 = .ok (.iload_n 1, 1) := by decide +kernel
theorem dX3_scrollOf_19 : decode cX3_scrollOf 19 = .ok (.aaload, 1) := by decide +kernel
theorem dX3_scrollOf_20 : decode cX3_scrollOf 20 = .ok (.goto 4, 3) := by decide +kernel
theorem dX3_scrollOf_23 : decode cX3_scrollOf 23 = .ok (.aconst_null, 1) := by decide +kernel
theorem dX3_scrollOf_24 : decode cX3_scrollOf 24 = .ok (.areturn, 1) := by decide +kernel
theorem dX3_meterOf_0 : decode cX3_meterOf 0 = .ok (.iload_n 1, 1) := by decide +kernel
theorem dX3_meterOf_1 : decode cX3_meterOf 1 = .ok (.iconst 0, 1) := by decide +kernel
theorem dX3_meterOf_2 : decode cX3_meterOf 2 = .ok (.bipush 7, 2) := by decide +kernel
theorem dX3_meterOf_4 : decode cX3_meterOf 4 = .ok (.invokestatic 75, 3) := by decide +kernel
theorem dX3_meterOf_7 : decode cX3_meterOf 7 = .ok (.ifCond .eq 12, 3) := by decide +kernel
theorem dX3_meterOf_10 : decode cX3_meterOf 10 = .ok (.aload_n 0, 1) := by decide +kernel
theorem dX3_meterOf_11 : decode cX3_meterOf 11 = .ok (.getfield 28, 3) := by decide +kernel
theorem dX3_meterOf_14 : decode cX3_meterOf 14 = .ok (.iload_n 1, 1) := by decide +kernel
theorem dX3_meterOf_15 : decode cX3_meterOf 15 = .ok (.aaload, 1) := by decide +kernel
theorem dX3_meterOf_16 : decode cX3_meterOf 16 = .ok (.goto 4, 3) := by decide +kernel
theorem dX3_meterOf_19 : decode cX3_meterOf 19 = .ok (.aconst_null, 1) := by decide +kernel
theorem dX3_meterOf_20 : decode cX3_meterOf 20 = .ok (.areturn, 1) := by decide +kernel
theorem dX3_sameBytes_0 : decode cX3_sameBytes 0 = .ok (.iconst 0, 1) := by decide +kernel
theorem dX3_sameBytes_1 : decode cX3_sameBytes 1 = .ok (.istore 5, 2) := by decide +kernel
theorem dX3_sameBytes_3 : decode cX3_sameBytes 3 = .ok (.iload 5, 2) := by decide +kernel
theorem dX3_sameBytes_5 : decode cX3_sameBytes 5 = .ok (.iload 4, 2) := by decide +kernel
theorem dX3_sameBytes_7 : decode cX3_sameBytes 7 = .ok (.if_icmp .ge 26, 3) := by decide +kernel
theorem dX3_sameBytes_10 : decode cX3_sameBytes 10 = .ok (.aload_n 0, 1) := by decide +kernel
theorem dX3_sameBytes_11 : decode cX3_sameBytes 11 = .ok (.iload_n 1, 1) := by decide +kernel
theorem dX3_sameBytes_12 : decode cX3_sameBytes 12 = .ok (.iload 5, 2) := by decide +kernel
theorem dX3_sameBytes_14 : decode cX3_sameBytes 14 = .ok (.iadd, 1) := by decide +kernel
theorem dX3_sameBytes_15 : decode cX3_sameBytes 15 = .ok (.baload, 1) := by decide +kernel
theorem dX3_sameBytes_16 : decode cX3_sameBytes 16 = .ok (.aload_n 2, 1) := by decide +kernel
theorem dX3_sameBytes_17 : decode cX3_sameBytes 17 = .ok (.iload_n 3, 1) := by decide +kernel
theorem dX3_sameBytes_18 : decode cX3_sameBytes 18 = .ok (.iload 5, 2) := by decide +kernel
theorem dX3_sameBytes_20 : decode cX3_sameBytes 20 = .ok (.iadd, 1) := by decide +kernel
theorem dX3_sameBytes_21 : decode cX3_sameBytes 21 = .ok (.baload, 1) := by decide +kernel
theorem dX3_sameBytes_22 : decode cX3_sameBytes 22 = .ok (.if_icmp .eq 5, 3) := by decide +kernel
theorem dX3_sameBytes_25 : decode cX3_sameBytes 25 = .ok (.iconst 0, 1) := by decide +kernel
theorem dX3_sameBytes_26 : decode cX3_sameBytes 26 = .ok (.ireturn, 1) := by decide +kernel
theorem dX3_sameBytes_27 : decode cX3_sameBytes 27 = .ok (.iinc 5 1, 3) := by decide +kernel
theorem dX3_sameBytes_30 : decode cX3_sameBytes 30 = .ok (.goto (-27), 3) := by decide +kernel
theorem dX3_sameBytes_33 : decode cX3_sameBytes 33 = .ok (.iconst 1, 1) := by decide +kernel
theorem dX3_sameBytes_34 : decode cX3_sameBytes 34 = .ok (.ireturn, 1) := by decide +kernel
theorem dX3_pay_0 : decode cX3_pay 0 = .ok (.aload_n 0, 1) := by decide +kernel
theorem dX3_pay_1 : decode cX3_pay 1 = .ok (.iload_n 1, 1) := by decide +kernel
theorem dX3_pay_2 : decode cX3_pay 2 = .ok (.invokevirtual 97, 3) := by decide +kernel
theorem dX3_pay_5 : decode cX3_pay 5 = .ok (.astore 5, 2) := by decide +kernel
theorem dX3_pay_7 : decode cX3_pay 7 = .ok (.aload_n 0, 1) := by decide +kernel
theorem dX3_pay_8 : decode cX3_pay 8 = .ok (.iload_n 2, 1) := by decide +kernel
theorem dX3_pay_9 : decode cX3_pay 9 = .ok (.invokevirtual 101, 3) := by decide +kernel
theorem dX3_pay_12 : decode cX3_pay 12 = .ok (.astore 6, 2) := by decide +kernel
theorem dX3_pay_14 : decode cX3_pay 14 = .ok (.aload 5, 2) := by decide +kernel
theorem dX3_pay_16 : decode cX3_pay 16 = .ok (.ifnull 26, 3) := by decide +kernel
theorem dX3_pay_19 : decode cX3_pay 19 = .ok (.aload 6, 2) := by decide +kernel
theorem dX3_pay_21 : decode cX3_pay 21 = .ok (.ifnull 21, 3) := by decide +kernel
theorem dX3_pay_24 : decode cX3_pay 24 = .ok (.iload 4, 2) := by decide +kernel
theorem dX3_pay_26 : decode cX3_pay 26 = .ok (.invokestatic 117, 3) := by decide +kernel
theorem dX3_pay_29 : decode cX3_pay 29 = .ok (.ifCond .eq 13, 3) := by decide +kernel
theorem dX3_pay_32 : decode cX3_pay 32 = .ok (.iload_n 3, 1) := by decide +kernel
theorem dX3_pay_33 : decode cX3_pay 33 = .ok (.iconst 1, 1) := by decide +kernel
theorem dX3_pay_34 : decode cX3_pay 34 = .ok (.bipush 50, 2) := by decide +kernel
theorem dX3_pay_36 : decode cX3_pay 36 = .ok (.invokestatic 75, 3) := by decide +kernel
theorem dX3_pay_39 : decode cX3_pay 39 = .ok (.ifCond .ne 5, 3) := by decide +kernel
theorem dX3_pay_42 : decode cX3_pay 42 = .ok (.iconst (-1), 1) := by decide +kernel
theorem dX3_pay_43 : decode cX3_pay 43 = .ok (.ireturn, 1) := by decide +kernel
theorem dX3_pay_44 : decode cX3_pay 44 = .ok (.aload 6, 2) := by decide +kernel
theorem dX3_pay_46 : decode cX3_pay 46 = .ok (.aload 5, 2) := by decide +kernel
theorem dX3_pay_48 : decode cX3_pay 48 = .ok (.aload_n 0, 1) := by decide +kernel
theorem dX3_pay_49 : decode cX3_pay 49 = .ok (.getfield 59, 3) := by decide +kernel
theorem dX3_pay_52 : decode cX3_pay 52 = .ok (.invokevirtual 120, 3) := by decide +kernel
theorem dX3_pay_55 : decode cX3_pay 55 = .ok (.ifCond .ne 6, 3) := by decide +kernel
theorem dX3_pay_58 : decode cX3_pay 58 = .ok (.bipush (-2), 2) := by decide +kernel
theorem dX3_pay_60 : decode cX3_pay 60 = .ok (.ireturn, 1) := by decide +kernel
theorem dX3_pay_61 : decode cX3_pay 61 = .ok (.aload 6, 2) := by decide +kernel
theorem dX3_pay_63 : decode cX3_pay 63 = .ok (.getfield 124, 3) := by decide +kernel
theorem dX3_pay_66 : decode cX3_pay 66 = .ok (.aload 5, 2) := by decide +kernel
theorem dX3_pay_68 : decode cX3_pay 68 = .ok (.getfield 94, 3) := by decide +kernel
theorem dX3_pay_71 : decode cX3_pay 71 = .ok (.iaload, 1) := by decide +kernel
theorem dX3_pay_72 : decode cX3_pay 72 = .ok (.iload_n 3, 1) := by decide +kernel
theorem dX3_pay_73 : decode cX3_pay 73 = .ok (.iadd, 1) := by decide +kernel
theorem dX3_pay_74 : decode cX3_pay 74 = .ok (.istore 7, 2) := by decide +kernel
theorem dX3_pay_76 : decode cX3_pay 76 = .ok (.aload 5, 2) := by decide +kernel
theorem dX3_pay_78 : decode cX3_pay 78 = .ok (.iload 7, 2) := by decide +kernel
theorem dX3_pay_80 : decode cX3_pay 80 = .ok (.invokevirtual 128, 3) := by decide +kernel
theorem dX3_pay_83 : decode cX3_pay 83 = .ok (.ifCond .ne 6, 3) := by decide +kernel
theorem dX3_pay_86 : decode cX3_pay 86 = .ok (.bipush (-3), 2) := by decide +kernel
theorem dX3_pay_88 : decode cX3_pay 88 = .ok (.ireturn, 1) := by decide +kernel
theorem dX3_pay_89 : decode cX3_pay 89 = .ok (.aload_n 0, 1) := by decide +kernel
theorem dX3_pay_90 : decode cX3_pay 90 = .ok (.aload 5, 2) := by decide +kernel
theorem dX3_pay_92 : decode cX3_pay 92 = .ok (.aload 6, 2) := by decide +kernel
theorem dX3_pay_94 : decode cX3_pay 94 = .ok (.iload 7, 2) := by decide +kernel
theorem dX3_pay_96 : decode cX3_pay 96 = .ok (.aload 5, 2) := by decide +kernel
theorem dX3_pay_98 : decode cX3_pay 98 = .ok (.getfield 131, 3) := by decide +kernel
theorem dX3_pay_101 : decode cX3_pay 101 = .ok (.aload 5, 2) := by decide +kernel
theorem dX3_pay_103 : decode cX3_pay 103 = .ok (.iload 7, 2) := by decide +kernel
theorem dX3_pay_105 : decode cX3_pay 105 = .ok (.invokevirtual 134, 3) := by decide +kernel
theorem dX3_pay_108 : decode cX3_pay 108 = .ok (.iload 4, 2) := by decide +kernel
theorem dX3_pay_110 : decode cX3_pay 110 = .ok (.invokevirtual 138, 3) := by decide +kernel
theorem dX3_pay_113 : decode cX3_pay 113 = .ok (.ireturn, 1) := by decide +kernel
theorem dX3_isPlate_0 : decode cX3_isPlate 0 = .ok (.iload_n 0, 1) := by decide +kernel
theorem dX3_isPlate_1 : decode cX3_isPlate 1 = .ok (.iconst 0, 1) := by decide +kernel
theorem dX3_isPlate_2 : decode cX3_isPlate 2 = .ok (.bipush 15, 2) := by decide +kernel
theorem dX3_isPlate_4 : decode cX3_isPlate 4 = .ok (.invokestatic 75, 3) := by decide +kernel
theorem dX3_isPlate_7 : decode cX3_isPlate 7 = .ok (.ireturn, 1) := by decide +kernel
