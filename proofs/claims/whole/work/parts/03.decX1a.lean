theorem dX1_init_0 : decode cX1_init 0 = .ok (.aload_n 0, 1) := by decide +kernel
theorem dX1_init_1 : decode cX1_init 1 = .ok (.invokespecial 3, 3) := by decide +kernel
theorem dX1_init_4 : decode cX1_init 4 = .ok (.aload_n 0, 1) := by decide +kernel
theorem dX1_init_5 : decode cX1_init 5 = .ok (.iload_n 1, 1) := by decide +kernel
theorem dX1_init_6 : decode cX1_init 6 = .ok (.putfield 9, 3) := by decide +kernel
theorem dX1_init_9 : decode cX1_init 9 = .ok (.aload_n 0, 1) := by decide +kernel
theorem dX1_init_10 : decode cX1_init 10 = .ok (.bipush 16, 2) := by decide +kernel
theorem dX1_init_12 : decode cX1_init 12 = .ok (.newarray .byte, 2) := by decide +kernel
theorem dX1_init_14 : decode cX1_init 14 = .ok (.putfield 15, 3) := by decide +kernel
theorem dX1_init_17 : decode cX1_init 17 = .ok (.aload_n 0, 1) := by decide +kernel
theorem dX1_init_18 : decode cX1_init 18 = .ok (.bipush 16, 2) := by decide +kernel
theorem dX1_init_20 : decode cX1_init 20 = .ok (.newarray .byte, 2) := by decide +kernel
theorem dX1_init_22 : decode cX1_init 22 = .ok (.putfield 19, 3) := by decide +kernel
theorem dX1_init_25 : decode cX1_init 25 = .ok (.aload_n 0, 1) := by decide +kernel
theorem dX1_init_26 : decode cX1_init 26 = .ok (.bipush 16, 2) := by decide +kernel
theorem dX1_init_28 : decode cX1_init 28 = .ok (.newarray .boolean, 2) := by decide +kernel
theorem dX1_init_30 : decode cX1_init 30 = .ok (.putfield 22, 3) := by decide +kernel
theorem dX1_init_33 : decode cX1_init 33 = .ok (.aload_n 0, 1) := by decide +kernel
theorem dX1_init_34 : decode cX1_init 34 = .ok (.bipush 16, 2) := by decide +kernel
theorem dX1_init_36 : decode cX1_init 36 = .ok (.newarray .boolean, 2) := by decide +kernel
theorem dX1_init_38 : decode cX1_init 38 = .ok (.putfield 26, 3) := by decide +kernel
theorem dX1_init_41 : decode cX1_init 41 = .ok (.aload_n 0, 1) := by decide +kernel
theorem dX1_init_42 : decode cX1_init 42 = .ok (.bipush 16, 2) := by decide +kernel
theorem dX1_init_44 : decode cX1_init 44 = .ok (.newarray .int, 2) := by decide +kernel
theorem dX1_init_46 : decode cX1_init 46 = .ok (.putfield 29, 3) := by decide +kernel
theorem dX1_init_49 : decode cX1_init 49 = .ok (.aload_n 0, 1) := by decide +kernel
theorem dX1_init_50 : decode cX1_init 50 = .ok (.sipush 320, 3) := by decide +kernel
theorem dX1_init_53 : decode cX1_init 53 = .ok (.newarray .byte, 2) := by decide +kernel
theorem dX1_init_55 : decode cX1_init 55 = .ok (.putfield 33, 3) := by decide +kernel
theorem dX1_init_58 : decode cX1_init 58 = .ok (.aload_n 0, 1) := by decide +kernel
theorem dX1_init_59 : decode cX1_init 59 = .ok (.bipush 16, 2) := by decide +kernel
theorem dX1_init_61 : decode cX1_init 61 = .ok (.newarray .int, 2) := by decide +kernel
theorem dX1_init_63 : decode cX1_init 63 = .ok (.putfield 36, 3) := by decide +kernel
theorem dX1_init_66 : decode cX1_init 66 = .ok (.aload_n 0, 1) := by decide +kernel
theorem dX1_init_67 : decode cX1_init 67 = .ok (.iconst 3, 1) := by decide +kernel
theorem dX1_init_68 : decode cX1_init 68 = .ok (.putfield 39, 3) := by decide +kernel
theorem dX1_init_71 : decode cX1_init 71 = .ok (.return_, 1) := by decide +kernel
theorem dX1_forgetMinutes_0 : decode cX1_forgetMinutes 0 = .ok (.iconst 0, 1) := by decide +kernel
theorem dX1_forgetMinutes_1 : decode cX1_forgetMinutes 1 = .ok (.istore_n 1, 1) := by decide +kernel
theorem dX1_forgetMinutes_2 : decode cX1_forgetMinutes 2 = .ok (.iload_n 1, 1) := by decide +kernel
theorem dX1_forgetMinutes_3 : decode cX1_forgetMinutes 3 = .ok (.bipush 16, 2) := by decide +kernel
theorem dX1_forgetMinutes_5 : decode cX1_forgetMinutes 5 = .ok (.if_icmp .ge 16, 3) := by decide +kernel
theorem dX1_forgetMinutes_8 : decode cX1_forgetMinutes 8 = .ok (.aload_n 0, 1) := by decide +kernel
theorem dX1_forgetMinutes_9 : decode cX1_forgetMinutes 9 = .ok (.getfield 36, 3) := by decide +kernel
theorem dX1_forgetMinutes_12 : decode cX1_forgetMinutes 12 = .ok (.iload_n 1, 1) := by decide +kernel
theorem dX1_forgetMinutes_13 : decode cX1_forgetMinutes 13 = .ok (.iconst 0, 1) := by decide +kernel
theorem dX1_forgetMinutes_14 : decode cX1_forgetMinutes 14 = .ok (.iastore, 1) := by decide +kernel
theorem dX1_forgetMinutes_15 : decode cX1_forgetMinutes 15 = .ok (.iinc 1 1, 3) := by decide +kernel
theorem dX1_forgetMinutes_18 : decode cX1_forgetMinutes 18 = .ok (.goto (-16), 3) := by decide +kernel
theorem dX1_forgetMinutes_21 : decode cX1_forgetMinutes 21 = .ok (.return_, 1) := by decide +kernel
theorem dX1_refusal_0 : decode cX1_refusal 0 = .ok (.aload_n 0, 1) := by decide +kernel
theorem dX1_refusal_1 : decode cX1_refusal 1 = .ok (.getfield 26, 3) := by decide +kernel
theorem dX1_refusal_4 : decode cX1_refusal 4 = .ok (.aload_n 1, 1) := by decide +kernel
theorem dX1_refusal_5 : decode cX1_refusal 5 = .ok (.getfield 42, 3) := by decide +kernel
theorem dX1_refusal_8 : decode cX1_refusal 8 = .ok (.baload, 1) := by decide +kernel
theorem dX1_refusal_9 : decode cX1_refusal 9 = .ok (.ifCond .eq 5, 3) := by decide +kernel
theorem dX1_refusal_12 : decode cX1_refusal 12 = .ok (.iconst 1, 1) := by decide +kernel
theorem dX1_refusal_13 : decode cX1_refusal 13 = .ok (.ireturn, 1) := by decide +kernel
theorem dX1_refusal_14 : decode cX1_refusal 14 = .ok (.aload_n 0, 1) := by decide +kernel
theorem dX1_refusal_15 : decode cX1_refusal 15 = .ok (.getfield 45, 3) := by decide +kernel
theorem dX1_refusal_18 : decode cX1_refusal 18 = .ok (.iconst 1, 1) := by decide +kernel
theorem dX1_refusal_19 : decode cX1_refusal 19 = .ok (.if_icmp .lt 19, 3) := by decide +kernel
theorem dX1_refusal_22 : decode cX1_refusal 22 = .ok (.aload_n 0, 1) := by decide +kernel
theorem dX1_refusal_23 : decode cX1_refusal 23 = .ok (.aload_n 0, 1) := by decide +kernel
theorem dX1_refusal_24 : decode cX1_refusal 24 = .ok (.getfield 15, 3) := by decide +kernel
theorem dX1_refusal_27 : decode cX1_refusal 27 = .ok (.aload_n 1, 1) := by decide +kernel
theorem dX1_refusal_28 : decode cX1_refusal 28 = .ok (.getfield 48, 3) := by decide +kernel
theorem dX1_refusal_31 : decode cX1_refusal 31 = .ok (.aload_n 3, 1) := by decide +kernel
theorem dX1_refusal_32 : decode cX1_refusal 32 = .ok (.invokevirtual 51, 3) := by decide +kernel
theorem dX1_refusal_35 : decode cX1_refusal 35 = .ok (.ifCond .ne 27, 3) := by decide +kernel
theorem dX1_refusal_38 : decode cX1_refusal 38 = .ok (.aload_n 0, 1) := by decide +kernel
theorem dX1_refusal_39 : decode cX1_refusal 39 = .ok (.getfield 45, 3) := by decide +kernel
theorem dX1_refusal_42 : decode cX1_refusal 42 = .ok (.iconst 2, 1) := by decide +kernel
theorem dX1_refusal_43 : decode cX1_refusal 43 = .ok (.if_icmp .lt 23, 3) := by decide +kernel
theorem dX1_refusal_46 : decode cX1_refusal 46 = .ok (.aload_n 0, 1) := by decide +kernel
theorem dX1_refusal_47 : decode cX1_refusal 47 = .ok (.aload_n 0, 1) := by decide +kernel
theorem dX1_refusal_48 : decode cX1_refusal 48 = .ok (.getfield 19, 3) := by decide +kernel
theorem dX1_refusal_51 : decode cX1_refusal 51 = .ok (.aload_n 1, 1) := by decide +kernel
theorem dX1_refusal_52 : decode cX1_refusal 52 = .ok (.getfield 48, 3) := by decide +kernel
theorem dX1_refusal_55 : decode cX1_refusal 55 = .ok (.aload_n 3, 1) := by decide +kernel
theorem dX1_refusal_56 : decode cX1_refusal 56 = .ok (.invokevirtual 51, 3) := by decide +kernel
theorem dX1_refusal_59 : decode cX1_refusal 59 = .ok (.ifCond .eq 7, 3) := by decide +kernel
theorem dX1_refusal_62 : decode cX1_refusal 62 = .ok (.iconst 1, 1) := by decide +kernel
theorem dX1_refusal_63 : decode cX1_refusal 63 = .ok (.goto 4, 3) := by decide +kernel
theorem dX1_refusal_66 : decode cX1_refusal 66 = .ok (.iconst 0, 1) := by decide +kernel
theorem dX1_refusal_67 : decode cX1_refusal 67 = .ok (.istore 4, 2) := by decide +kernel
theorem dX1_refusal_69 : decode cX1_refusal 69 = .ok (.iload 4, 2) := by decide +kernel
theorem dX1_refusal_71 : decode cX1_refusal 71 = .ok (.ifCond .ne 5, 3) := by decide +kernel
theorem dX1_refusal_74 : decode cX1_refusal 74 = .ok (.iconst 2, 1) := by decide +kernel
theorem dX1_refusal_75 : decode cX1_refusal 75 = .ok (.ireturn, 1) := by decide +kernel
theorem dX1_refusal_76 : decode cX1_refusal 76 = .ok (.aload_n 1, 1) := by decide +kernel
theorem dX1_refusal_77 : decode cX1_refusal 77 = .ok (.aload_n 0, 1) := by decide +kernel
theorem dX1_refusal_78 : decode cX1_refusal 78 = .ok (.getfield 9, 3) := by decide +kernel
theorem dX1_refusal_81 : decode cX1_refusal 81 = .ok (.invokevirtual 55, 3) := by decide +kernel
theorem dX1_refusal_84 : decode cX1_refusal 84 = .ok (.ifCond .ne 5, 3) := by decide +kernel
theorem dX1_refusal_87 : decode cX1_refusal 87 = .ok (.iconst 3, 1) := by decide +kernel
theorem dX1_refusal_88 : decode cX1_refusal 88 = .ok (.ireturn, 1) := by decide +kernel
theorem dX1_refusal_89 : decode cX1_refusal 89 = .ok (.aload_n 1, 1) := by decide +kernel
theorem dX1_refusal_90 : decode cX1_refusal 90 = .ok (.iload_n 2, 1) := by decide +kernel
theorem dX1_refusal_91 : decode cX1_refusal 91 = .ok (.invokevirtual 59, 3) := by decide +kernel
theorem dX1_refusal_94 : decode cX1_refusal 94 = .ok (.ifCond .eq 5, 3) := by decide +kernel
theorem dX1_refusal_97 : decode cX1_refusal 97 = .ok (.iconst 4, 1) := by decide +kernel
theorem dX1_refusal_98 : decode cX1_refusal 98 = .ok (.ireturn, 1) := by decide +kernel
theorem dX1_refusal_99 : decode cX1_refusal 99 = .ok (.aload_n 0, 1) := by decide +kernel
theorem dX1_refusal_100 : decode cX1_refusal 100 = .ok (.getfield 22, 3) := by decide +kernel
theorem dX1_refusal_103 : decode cX1_refusal 103 = .ok (.aload_n 1, 1) := by decide +kernel
theorem dX1_refusal_104 : decode cX1_refusal 104 = .ok (.getfield 42, 3) := by decide +kernel
theorem dX1_refusal_107 : decode cX1_refusal 107 = .ok (.baload, 1) := by decide +kernel
theorem dX1_refusal_108 : decode cX1_refusal 108 = .ok (.ifCond .eq 5, 3) := by decide +kernel
theorem dX1_refusal_111 : decode cX1_refusal 111 = .ok (.iconst 5, 1) := by decide +kernel
theorem dX1_refusal_112 : decode cX1_refusal 112 = .ok (.ireturn, 1) := by decide +kernel
theorem dX1_refusal_113 : decode cX1_refusal 113 = .ok (.aload_n 0, 1) := by decide +kernel
theorem dX1_refusal_114 : decode cX1_refusal 114 = .ok (.getfield 62, 3) := by decide +kernel
theorem dX1_refusal_117 : decode cX1_refusal 117 = .ok (.bipush 6, 2) := by decide +kernel
theorem dX1_refusal_119 : decode cX1_refusal 119 = .ok (.if_icmp .lt 8, 3) := by decide +kernel
theorem dX1_refusal_122 : decode cX1_refusal 122 = .ok (.bipush 6, 2) := by decide +kernel
theorem dX1_refusal_124 : decode cX1_refusal 124 = .ok (.goto 4, 3) := by decide +kernel
theorem dX1_refusal_127 : decode cX1_refusal 127 = .ok (.iconst 0, 1) := by decide +kernel
theorem dX1_refusal_128 : decode cX1_refusal 128 = .ok (.ireturn, 1) := by decide +kernel
theorem dX1_isCodeBy_0 : decode cX1_isCodeBy 0 = .ok (.aload_n 3, 1) := by decide +kernel
theorem dX1_isCodeBy_1 : decode cX1_isCodeBy 1 = .ok (.aload_n 1, 1) := by decide +kernel
theorem dX1_isCodeBy_2 : decode cX1_isCodeBy 2 = .ok (.aload_n 2, 1) := by decide +kernel
theorem dX1_isCodeBy_3 : decode cX1_isCodeBy 3 = .ok (.sipush 172, 3) := by decide +kernel
theorem dX1_isCodeBy_6 : decode cX1_isCodeBy 6 = .ok (.invokevirtual 65, 3) := by decide +kernel
theorem dX1_isCodeBy_9 : decode cX1_isCodeBy 9 = .ok (.aload_n 3, 1) := by decide +kernel
theorem dX1_isCodeBy_10 : decode cX1_isCodeBy 10 = .ok (.getfield 71, 3) := by decide +kernel
theorem dX1_isCodeBy_13 : decode cX1_isCodeBy 13 = .ok (.iconst 0, 1) := by decide +kernel
theorem dX1_isCodeBy_14 : decode cX1_isCodeBy 14 = .ok (.aload_n 2, 1) := by decide +kernel
theorem dX1_isCodeBy_15 : decode cX1_isCodeBy 15 = .ok (.sipush 172, 3) := by decide +kernel
theorem dX1_isCodeBy_18 : decode cX1_isCodeBy 18 = .ok (.bipush 32, 2) := by decide +kernel
theorem dX1_isCodeBy_20 : decode cX1_isCodeBy 20 = .ok (.invokestatic 74, 3) := by decide +kernel
theorem dX1_isCodeBy_23 : decode cX1_isCodeBy 23 = .ok (.ireturn, 1) := by decide +kernel
theorem dX1_powerLasts_0 : decode cX1_powerLasts 0 = .ok (.aload_n 0, 1) := by decide +kernel
theorem dX1_powerLasts_1 : decode cX1_powerLasts 1 = .ok (.getfield 39, 3) := by decide +kernel
theorem dX1_powerLasts_4 : decode cX1_powerLasts 4 = .ok (.iconst 3, 1) := by decide +kernel
theorem dX1_powerLasts_5 : decode cX1_powerLasts 5 = .ok (.if_icmp .lt 7, 3) := by decide +kernel
theorem dX1_powerLasts_8 : decode cX1_powerLasts 8 = .ok (.iconst 1, 1) := by decide +kernel
theorem dX1_powerLasts_9 : decode cX1_powerLasts 9 = .ok (.goto 4, 3) := by decide +kernel
theorem dX1_powerLasts_12 : decode cX1_powerLasts 12 = .ok (.iconst 0, 1) := by decide +kernel
theorem dX1_powerLasts_13 : decode cX1_powerLasts 13 = .ok (.istore_n 1, 1) := by decide +kernel
theorem dX1_powerLasts_14 : decode cX1_powerLasts 14 = .ok (.aload_n 0, 1) := by decide +kernel
theorem dX1_powerLasts_15 : decode cX1_powerLasts 15 = .ok (.iconst 3, 1) := by decide +kernel
theorem dX1_powerLasts_16 : decode cX1_powerLasts 16 = .ok (.putfield 39, 3) := by decide +kernel
theorem dX1_powerLasts_19 : decode cX1_powerLasts 19 = .ok (.iload_n 1, 1) := by decide +kernel
theorem dX1_powerLasts_20 : decode cX1_powerLasts 20 = .ok (.ireturn, 1) := by decide +kernel
theorem dX1_enlist_0 : decode cX1_enlist 0 = .ok (.aload_n 1, 1) := by decide +kernel
theorem dX1_enlist_1 : decode cX1_enlist 1 = .ok (.getfield 42, 3) := by decide +kernel
theorem dX1_enlist_4 : decode cX1_enlist 4 = .ok (.istore_n 2, 1) := by decide +kernel
theorem dX1_enlist_5 : decode cX1_enlist 5 = .ok (.aload_n 0, 1) := by decide +kernel
theorem dX1_enlist_6 : decode cX1_enlist 6 = .ok (.getfield 26, 3) := by decide +kernel
theorem dX1_enlist_9 : decode cX1_enlist 9 = .ok (.iload_n 2, 1) := by decide +kernel
theorem dX1_enlist_10 : decode cX1_enlist 10 = .ok (.iconst 1, 1) := by decide +kernel
theorem dX1_enlist_11 : decode cX1_enlist 11 = .ok (.bastore, 1) := by decide +kernel
theorem dX1_enlist_12 : decode cX1_enlist 12 = .ok (.aload_n 0, 1) := by decide +kernel
theorem dX1_enlist_13 : decode cX1_enlist 13 = .ok (.dup, 1) := by decide +kernel
theorem dX1_enlist_14 : decode cX1_enlist 14 = .ok (.getfield 62, 3) := by decide +kernel
theorem dX1_enlist_17 : decode cX1_enlist 17 = .ok (.iconst 1, 1) := by decide +kernel
theorem dX1_enlist_18 : decode cX1_enlist 18 = .ok (.iadd, 1) := by decide +kernel
theorem dX1_enlist_19 : decode cX1_enlist 19 = .ok (.putfield 62, 3) := by decide +kernel
theorem dX1_enlist_22 : decode cX1_enlist 22 = .ok (.aload_n 0, 1) := by decide +kernel
theorem dX1_enlist_23 : decode cX1_enlist 23 = .ok (.getfield 29, 3) := by decide +kernel
theorem dX1_enlist_26 : decode cX1_enlist 26 = .ok (.iload_n 2, 1) := by decide +kernel
theorem dX1_enlist_27 : decode cX1_enlist 27 = .ok (.iconst 0, 1) := by decide +kernel
theorem dX1_enlist_28 : decode cX1_enlist 28 = .ok (.iastore, 1) := by decide +kernel
theorem dX1_enlist_29 : decode cX1_enlist 29 = .ok (.aload_n 0, 1) := by decide +kernel
theorem dX1_enlist_30 : decode cX1_enlist 30 = .ok (.iload_n 2, 1) := by decide +kernel
theorem dX1_enlist_31 : decode cX1_enlist 31 = .ok (.aload_n 1, 1) := by decide +kernel
theorem dX1_enlist_32 : decode cX1_enlist 32 = .ok (.getfield 48, 3) := by decide +kernel
theorem dX1_enlist_35 : decode cX1_enlist 35 = .ok (.aload_n 1, 1) := by decide +kernel
theorem dX1_enlist_36 : decode cX1_enlist 36 = .ok (.aload_n 0, 1) := by decide +kernel
theorem dX1_enlist_37 : decode cX1_enlist 37 = .ok (.getfield 9, 3) := by decide +kernel
theorem dX1_enlist_40 : decode cX1_enlist 40 = .ok (.invokevirtual 78, 3) := by decide +kernel
theorem dX1_enlist_43 : decode cX1_enlist 43 = .ok (.invokevirtual 82, 3) := by decide +kernel
theorem dX1_enlist_46 : decode cX1_enlist 46 = .ok (.return_, 1) := by decide +kernel
theorem dX1_keepCoin_0 : decode cX1_keepCoin 0 = .ok (.aload_n 2, 1) := by decide +kernel
theorem dX1_keepCoin_1 : decode cX1_keepCoin 1 = .ok (.iload_n 3, 1) := by decide +kernel
theorem dX1_keepCoin_2 : decode cX1_keepCoin 2 = .ok (.aload_n 0, 1) := by decide +kernel
theorem dX1_keepCoin_3 : decode cX1_keepCoin 3 = .ok (.getfield 33, 3) := by decide +kernel
theorem dX1_keepCoin_6 : decode cX1_keepCoin 6 = .ok (.iload_n 1, 1) := by decide +kernel
theorem dX1_keepCoin_7 : decode cX1_keepCoin 7 = .ok (.bipush 20, 2) := by decide +kernel
theorem dX1_keepCoin_9 : decode cX1_keepCoin 9 = .ok (.imul, 1) := by decide +kernel
theorem dX1_keepCoin_10 : decode cX1_keepCoin 10 = .ok (.bipush 20, 2) := by decide +kernel
theorem dX1_keepCoin_12 : decode cX1_keepCoin 12 = .ok (.invokestatic 93, 3) := by decide +kernel
theorem dX1_keepCoin_15 : decode cX1_keepCoin 15 = .ok (.return_, 1) := by decide +kernel
theorem dX1_honours_0 : decode cX1_honours 0 = .ok (.aload_n 0, 1) := by decide +kernel
theorem dX1_honours_1 : decode cX1_honours 1 = .ok (.getfield 26, 3) := by decide +kernel
theorem dX1_honours_4 : decode cX1_honours 4 = .ok (.aload_n 1, 1) := by decide +kernel
theorem dX1_honours_5 : decode cX1_honours 5 = .ok (.getfield 42, 3) := by decide +kernel
theorem dX1_honours_8 : decode cX1_honours 8 = .ok (.baload, 1) := by decide +kernel
theorem dX1_honours_9 : decode cX1_honours 9 = .ok (.ifCond .eq 15, 3) := by decide +kernel
theorem dX1_honours_12 : decode cX1_honours 12 = .ok (.aload_n 1, 1) := by decide +kernel
theorem dX1_honours_13 : decode cX1_honours 13 = .ok (.iload_n 2, 1) := by decide +kernel
theorem dX1_honours_14 : decode cX1_honours 14 = .ok (.invokevirtual 59, 3) := by decide +kernel
theorem dX1_honours_17 : decode cX1_honours 17 = .ok (.ifCond .ne 7, 3) := by decide +kernel
theorem dX1_honours_20 : decode cX1_honours 20 = .ok (.iconst 1, 1) := by decide +kernel
theorem dX1_honours_21 : decode cX1_honours 21 = .ok (.goto 4, 3) := by decide +kernel
theorem dX1_honours_24 : decode cX1_honours 24 = .ok (.iconst 0, 1) := by decide +kernel
theorem dX1_honours_25 : decode cX1_honours 25 = .ok (.ireturn, 1) := by decide +kernel
theorem dX1_isGood_0 : decode cX1_isGood 0 = .ok (.aload_n 0, 1) := by decide +kernel
theorem dX1_isGood_1 : decode cX1_isGood 1 = .ok (.getfield 29, 3) := by decide +kernel
theorem dX1_isGood_4 : decode cX1_isGood 4 = .ok (.aload_n 1, 1) := by decide +kernel
theorem dX1_isGood_5 : decode cX1_isGood 5 = .ok (.getfield 42, 3) := by decide +kernel
theorem dX1_isGood_8 : decode cX1_isGood 8 = .ok (.iaload, 1) := by decide +kernel
theorem dX1_isGood_9 : decode cX1_isGood 9 = .ok (.istore 6, 2) := by decide +kernel
theorem dX1_isGood_11 : decode cX1_isGood 11 = .ok (.aload 5, 2) := by decide +kernel
theorem dX1_isGood_13 : decode cX1_isGood 13 = .ok (.getfield 90, 3) := by decide +kernel
theorem dX1_isGood_16 : decode cX1_isGood 16 = .ok (.astore 7, 2) := by decide +kernel
theorem dX1_isGood_18 : decode cX1_isGood 18 = .ok (.aload_n 3, 1) := by decide +kernel
theorem dX1_isGood_19 : decode cX1_isGood 19 = .ok (.iload 4, 2) := by decide +kernel
theorem dX1_isGood_21 : decode cX1_isGood 21 = .ok (.aload 7, 2) := by decide +kernel
theorem dX1_isGood_23 : decode cX1_isGood 23 = .ok (.iconst 0, 1) := by decide +kernel
theorem dX1_isGood_24 : decode cX1_isGood 24 = .ok (.bipush 20, 2) := by decide +kernel
theorem dX1_isGood_26 : decode cX1_isGood 26 = .ok (.invokestatic 93, 3) := by decide +kernel
theorem dX1_isGood_29 : decode cX1_isGood 29 = .ok (.iload_n 2, 1) := by decide +kernel
theorem dX1_isGood_30 : decode cX1_isGood 30 = .ok (.istore 8, 2) := by decide +kernel
theorem dX1_isGood_32 : decode cX1_isGood 32 = .ok (.iload 8, 2) := by decide +kernel
theorem dX1_isGood_34 : decode cX1_isGood 34 = .ok (.iload 6, 2) := by decide +kernel
theorem dX1_isGood_36 : decode cX1_isGood 36 = .ok (.if_icmp .le 44, 3) := by decide +kernel
theorem dX1_isGood_39 : decode cX1_isGood 39 = .ok (.iload 8, 2) := by decide +kernel
theorem dX1_isGood_41 : decode cX1_isGood 41 = .ok (.iconst 1, 1) := by decide +kernel
theorem dX1_isGood_42 : decode cX1_isGood 42 = .ok (.if_icmp .ne 21, 3) := by decide +kernel
theorem dX1_isGood_45 : decode cX1_isGood 45 = .ok (.aload 5, 2) := by decide +kernel
theorem dX1_isGood_47 : decode cX1_isGood 47 = .ok (.aload 7, 2) := by decide +kernel
theorem dX1_isGood_49 : decode cX1_isGood 49 = .ok (.iconst 0, 1) := by decide +kernel
theorem dX1_isGood_50 : decode cX1_isGood 50 = .ok (.aload_n 0, 1) := by decide +kernel
theorem dX1_isGood_51 : decode cX1_isGood 51 = .ok (.getfield 9, 3) := by decide +kernel
theorem dX1_isGood_54 : decode cX1_isGood 54 = .ok (.aload 7, 2) := by decide +kernel
theorem dX1_isGood_56 : decode cX1_isGood 56 = .ok (.iconst 0, 1) := by decide +kernel
theorem dX1_isGood_57 : decode cX1_isGood 57 = .ok (.invokevirtual 99, 3) := by decide +kernel
theorem dX1_isGood_60 : decode cX1_isGood 60 = .ok (.goto 14, 3) := by decide +kernel
theorem dX1_isGood_63 : decode cX1_isGood 63 = .ok (.aload 5, 2) := by decide +kernel
theorem dX1_isGood_65 : decode cX1_isGood 65 = .ok (.aload 7, 2) := by decide +kernel
theorem dX1_isGood_67 : decode cX1_isGood 67 = .ok (.iconst 0, 1) := by decide +kernel
theorem dX1_isGood_68 : decode cX1_isGood 68 = .ok (.aload 7, 2) := by decide +kernel
theorem dX1_isGood_70 : decode cX1_isGood 70 = .ok (.iconst 0, 1) := by decide +kernel
theorem dX1_isGood_71 : decode cX1_isGood 71 = .ok (.invokevirtual 103, 3) := by decide +kernel
theorem dX1_isGood_74 : decode cX1_isGood 74 = .ok (.iinc 8 (-1), 3) := by decide +kernel
theorem dX1_isGood_77 : decode cX1_isGood 77 = .ok (.goto (-45), 3) := by decide +kernel
theorem dX1_isGood_80 : decode cX1_isGood 80 = .ok (.aload 7, 2) := by decide +kernel
theorem dX1_isGood_82 : decode cX1_isGood 82 = .ok (.iconst 0, 1) := by decide +kernel
theorem dX1_isGood_83 : decode cX1_isGood 83 = .ok (.aload_n 0, 1) := by decide +kernel
theorem dX1_isGood_84 : decode cX1_isGood 84 = .ok (.getfield 33, 3) := by decide +kernel
theorem dX1_isGood_87 : decode cX1_isGood 87 = .ok (.aload_n 1, 1) := by decide +kernel
theorem dX1_isGood_88 : decode cX1_isGood 88 = .ok (.getfield 42, 3) := by decide +kernel
theorem dX1_isGood_91 : decode cX1_isGood 91 = .ok (.bipush 20, 2) := by decide +kernel
theorem dX1_isGood_93 : decode cX1_isGood 93 = .ok (.imul, 1) := by decide +kernel
theorem dX1_isGood_94 : decode cX1_isGood 94 = .ok (.bipush 20, 2) := by decide +kernel
theorem dX1_isGood_96 : decode cX1_isGood 96 = .ok (.invokestatic 74, 3) := by decide +kernel
theorem dX1_isGood_99 : decode cX1_isGood 99 = .ok (.ireturn, 1) := by decide +kernel
theorem dX1_take_0 : decode cX1_take 0 = .ok (.iload_n 2, 1) := by decide +kernel
theorem dX1_take_1 : decode cX1_take 1 = .ok (.aload_n 0, 1) := by decide +kernel
theorem dX1_take_2 : decode cX1_take 2 = .ok (.getfield 29, 3) := by decide +kernel
theorem dX1_take_5 : decode cX1_take 5 = .ok (.aload_n 1, 1) := by decide +kernel
theorem dX1_take_6 : decode cX1_take 6 = .ok (.getfield 42, 3) := by decide +kernel
theorem dX1_take_9 : decode cX1_take 9 = .ok (.iaload, 1) := by decide +kernel
theorem dX1_take_10 : decode cX1_take 10 = .ok (.isub, 1) := by decide +kernel
theorem dX1_take_11 : decode cX1_take 11 = .ok (.istore 5, 2) := by decide +kernel
theorem dX1_take_13 : decode cX1_take 13 = .ok (.aload_n 0, 1) := by decide +kernel
theorem dX1_take_14 : decode cX1_take 14 = .ok (.getfield 29, 3) := by decide +kernel
theorem dX1_take_17 : decode cX1_take 17 = .ok (.aload_n 1, 1) := by decide +kernel
theorem dX1_take_18 : decode cX1_take 18 = .ok (.getfield 42, 3) := by decide +kernel
theorem dX1_take_21 : decode cX1_take 21 = .ok (.iload_n 2, 1) := by decide +kernel
theorem dX1_take_22 : decode cX1_take 22 = .ok (.iastore, 1) := by decide +kernel
theorem dX1_take_23 : decode cX1_take 23 = .ok (.aload_n 0, 1) := by decide +kernel
theorem dX1_take_24 : decode cX1_take 24 = .ok (.aload_n 1, 1) := by decide +kernel
theorem dX1_take_25 : decode cX1_take 25 = .ok (.getfield 42, 3) := by decide +kernel
theorem dX1_take_28 : decode cX1_take 28 = .ok (.aload_n 3, 1) := by decide +kernel
theorem dX1_take_29 : decode cX1_take 29 = .ok (.iload 4, 2) := by decide +kernel
theorem dX1_take_31 : decode cX1_take 31 = .ok (.invokevirtual 82, 3) := by decide +kernel
theorem dX1_take_34 : decode cX1_take 34 = .ok (.iload 5, 2) := by decide +kernel
theorem dX1_take_36 : decode cX1_take 36 = .ok (.aload_n 1, 1) := by decide +kernel
theorem dX1_take_37 : decode cX1_take 37 = .ok (.getfield 107, 3) := by decide +kernel
theorem dX1_take_40 : decode cX1_take 40 = .ok (.imul, 1) := by decide +kernel
theorem dX1_take_41 : decode cX1_take 41 = .ok (.iconst 2, 1) := by decide +kernel
theorem dX1_take_42 : decode cX1_take 42 = .ok (.imul, 1) := by decide +kernel
theorem dX1_take_43 : decode cX1_take 43 = .ok (.ireturn, 1) := by decide +kernel
theorem dX1_isNext_0 : decode cX1_isNext 0 = .ok (.aload_n 0, 1) := by decide +kernel
theorem dX1_isNext_1 : decode cX1_isNext 1 = .ok (.getfield 29, 3) := by decide +kernel
theorem dX1_isNext_4 : decode cX1_isNext 4 = .ok (.aload_n 1, 1) := by decide +kernel
theorem dX1_isNext_5 : decode cX1_isNext 5 = .ok (.getfield 42, 3) := by decide +kernel
theorem dX1_isNext_8 : decode cX1_isNext 8 = .ok (.iaload, 1) := by decide +kernel
theorem dX1_isNext_9 : decode cX1_isNext 9 = .ok (.istore_n 3, 1) := by decide +kernel
theorem dX1_isNext_10 : decode cX1_isNext 10 = .ok (.iload_n 2, 1) := by decide +kernel
theorem dX1_isNext_11 : decode cX1_isNext 11 = .ok (.iload_n 3, 1) := by decide +kernel
theorem dX1_isNext_12 : decode cX1_isNext 12 = .ok (.iconst 1, 1) := by decide +kernel
theorem dX1_isNext_13 : decode cX1_isNext 13 = .ok (.iadd, 1) := by decide +kernel
theorem dX1_isNext_14 : decode cX1_isNext 14 = .ok (.iload_n 3, 1) := by decide +kernel
theorem dX1_isNext_15 : decode cX1_isNext 15 = .ok (.bipush 50, 2) := by decide +kernel
theorem dX1_isNext_17 : decode cX1_isNext 17 = .ok (.iadd, 1) := by decide +kernel
theorem dX1_isNext_18 : decode cX1_isNext 18 = .ok (.invokestatic 86, 3) := by decide +kernel
theorem dX1_isNext_21 : decode cX1_isNext 21 = .ok (.ireturn, 1) := by decide +kernel
theorem dX1_strike_0 : decode cX1_strike 0 = .ok (.aload_n 0, 1) := by decide +kernel
theorem dX1_strike_1 : decode cX1_strike 1 = .ok (.getfield 26, 3) := by decide +kernel
theorem dX1_strike_4 : decode cX1_strike 4 = .ok (.aload_n 1, 1) := by decide +kernel
theorem dX1_strike_5 : decode cX1_strike 5 = .ok (.getfield 42, 3) := by decide +kernel
theorem dX1_strike_8 : decode cX1_strike 8 = .ok (.iconst 0, 1) := by decide +kernel
theorem dX1_strike_9 : decode cX1_strike 9 = .ok (.bastore, 1) := by decide +kernel
theorem dX1_strike_10 : decode cX1_strike 10 = .ok (.aload_n 0, 1) := by decide +kernel
theorem dX1_strike_11 : decode cX1_strike 11 = .ok (.dup, 1) := by decide +kernel
theorem dX1_strike_12 : decode cX1_strike 12 = .ok (.getfield 62, 3) := by decide +kernel
theorem dX1_strike_15 : decode cX1_strike 15 = .ok (.iconst 1, 1) := by decide +kernel
theorem dX1_strike_16 : decode cX1_strike 16 = .ok (.isub, 1) := by decide +kernel
theorem dX1_strike_17 : decode cX1_strike 17 = .ok (.putfield 62, 3) := by decide +kernel
theorem dX1_strike_20 : decode cX1_strike 20 = .ok (.return_, 1) := by decide +kernel
