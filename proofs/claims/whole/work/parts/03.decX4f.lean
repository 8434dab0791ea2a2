theorem dX4_offer_0 : decode cX4_offer 0 = .ok (.aload_n 0, 1) := by decide +kernel
theorem dX4_offer_1 : decode cX4_offer 1 = .ok (.iconst 0, 1) := by decide +kernel
theorem dX4_offer_2 : decode cX4_offer 2 = .ok (.putfield 121, 3) := by decide +kernel
theorem dX4_offer_5 : decode cX4_offer 5 = .ok (.aload_n 0, 1) := by decide +kernel
theorem dX4_offer_6 : decode cX4_offer 6 = .ok (.iload_n 1, 1) := by decide +kernel
theorem dX4_offer_7 : decode cX4_offer 7 = .ok (.iload_n 2, 1) := by decide +kernel
theorem dX4_offer_8 : decode cX4_offer 8 = .ok (.invokevirtual 274, 3) := by decide +kernel
theorem dX4_offer_11 : decode cX4_offer 11 = .ok (.ifCond .eq 14, 3) := by decide +kernel
theorem dX4_offer_14 : decode cX4_offer 14 = .ok (.iload 4, 2) := by decide +kernel
theorem dX4_offer_16 : decode cX4_offer 16 = .ok (.iconst 0, 1) := by decide +kernel
theorem dX4_offer_17 : decode cX4_offer 17 = .ok (.bipush 15, 2) := by decide +kernel
theorem dX4_offer_19 : decode cX4_offer 19 = .ok (.invokestatic 259, 3) := by decide +kernel
theorem dX4_offer_22 : decode cX4_offer 22 = .ok (.ifCond .ne 5, 3) := by decide +kernel
theorem dX4_offer_25 : decode cX4_offer 25 = .ok (.iconst (-1), 1) := by decide +kernel
theorem dX4_offer_26 : decode cX4_offer 26 = .ok (.ireturn, 1) := by decide +kernel
theorem dX4_offer_27 : decode cX4_offer 27 = .ok (.aload_n 0, 1) := by decide +kernel
theorem dX4_offer_28 : decode cX4_offer 28 = .ok (.iload_n 1, 1) := by decide +kernel
theorem dX4_offer_29 : decode cX4_offer 29 = .ok (.iload_n 2, 1) := by decide +kernel
theorem dX4_offer_30 : decode cX4_offer 30 = .ok (.iload_n 3, 1) := by decide +kernel
theorem dX4_offer_31 : decode cX4_offer 31 = .ok (.invokevirtual 289, 3) := by decide +kernel
theorem dX4_offer_34 : decode cX4_offer 34 = .ok (.istore 5, 2) := by decide +kernel
theorem dX4_offer_36 : decode cX4_offer 36 = .ok (.iload 5, 2) := by decide +kernel
theorem dX4_offer_38 : decode cX4_offer 38 = .ok (.ifCond .eq 8, 3) := by decide +kernel
theorem dX4_offer_41 : decode cX4_offer 41 = .ok (.iload 5, 2) := by decide +kernel
theorem dX4_offer_43 : decode cX4_offer 43 = .ok (.goto 13, 3) := by decide +kernel
theorem dX4_offer_46 : decode cX4_offer 46 = .ok (.aload_n 0, 1) := by decide +kernel
theorem dX4_offer_47 : decode cX4_offer 47 = .ok (.iload_n 1, 1) := by decide +kernel
theorem dX4_offer_48 : decode cX4_offer 48 = .ok (.iload_n 2, 1) := by decide +kernel
theorem dX4_offer_49 : decode cX4_offer 49 = .ok (.iload_n 3, 1) := by decide +kernel
theorem dX4_offer_50 : decode cX4_offer 50 = .ok (.iload 4, 2) := by decide +kernel
theorem dX4_offer_52 : decode cX4_offer 52 = .ok (.iconst 1, 1) := by decide +kernel
theorem dX4_offer_53 : decode cX4_offer 53 = .ok (.invokevirtual 293, 3) := by decide +kernel
theorem dX4_offer_56 : decode cX4_offer 56 = .ok (.ireturn, 1) := by decide +kernel
theorem dX4_poke_0 : decode cX4_poke 0 = .ok (.aload_n 0, 1) := by decide +kernel
theorem dX4_poke_1 : decode cX4_poke 1 = .ok (.iconst 0, 1) := by decide +kernel
theorem dX4_poke_2 : decode cX4_poke 2 = .ok (.putfield 121, 3) := by decide +kernel
theorem dX4_poke_5 : decode cX4_poke 5 = .ok (.iload_n 1, 1) := by decide +kernel
theorem dX4_poke_6 : decode cX4_poke 6 = .ok (.iconst 0, 1) := by decide +kernel
theorem dX4_poke_7 : decode cX4_poke 7 = .ok (.bipush 19, 2) := by decide +kernel
theorem dX4_poke_9 : decode cX4_poke 9 = .ok (.invokestatic 259, 3) := by decide +kernel
theorem dX4_poke_12 : decode cX4_poke 12 = .ok (.ifCond .ne 5, 3) := by decide +kernel
theorem dX4_poke_15 : decode cX4_poke 15 = .ok (.iconst 0, 1) := by decide +kernel
theorem dX4_poke_16 : decode cX4_poke 16 = .ok (.ireturn, 1) := by decide +kernel
theorem dX4_poke_17 : decode cX4_poke 17 = .ok (.aload_n 0, 1) := by decide +kernel
theorem dX4_poke_18 : decode cX4_poke 18 = .ok (.getfield 41, 3) := by decide +kernel
theorem dX4_poke_21 : decode cX4_poke 21 = .ok (.iload_n 1, 1) := by decide +kernel
theorem dX4_poke_22 : decode cX4_poke 22 = .ok (.iload_n 2, 1) := by decide +kernel
theorem dX4_poke_23 : decode cX4_poke 23 = .ok (.i2b, 1) := by decide +kernel
theorem dX4_poke_24 : decode cX4_poke 24 = .ok (.bastore, 1) := by decide +kernel
theorem dX4_poke_25 : decode cX4_poke 25 = .ok (.iconst 1, 1) := by decide +kernel
theorem dX4_poke_26 : decode cX4_poke 26 = .ok (.ireturn, 1) := by decide +kernel
theorem dX4_coinByte_0 : decode cX4_coinByte 0 = .ok (.aload_n 0, 1) := by decide +kernel
theorem dX4_coinByte_1 : decode cX4_coinByte 1 = .ok (.iconst 0, 1) := by decide +kernel
theorem dX4_coinByte_2 : decode cX4_coinByte 2 = .ok (.putfield 121, 3) := by decide +kernel
theorem dX4_coinByte_5 : decode cX4_coinByte 5 = .ok (.iload_n 1, 1) := by decide +kernel
theorem dX4_coinByte_6 : decode cX4_coinByte 6 = .ok (.iconst 0, 1) := by decide +kernel
theorem dX4_coinByte_7 : decode cX4_coinByte 7 = .ok (.aload_n 0, 1) := by decide +kernel
theorem dX4_coinByte_8 : decode cX4_coinByte 8 = .ok (.getfield 265, 3) := by decide +kernel
theorem dX4_coinByte_11 : decode cX4_coinByte 11 = .ok (.iconst 1, 1) := by decide +kernel
theorem dX4_coinByte_12 : decode cX4_coinByte 12 = .ok (.isub, 1) := by decide +kernel
theorem dX4_coinByte_13 : decode cX4_coinByte 13 = .ok (.invokestatic 259, 3) := by decide +kernel
theorem dX4_coinByte_16 : decode cX4_coinByte 16 = .ok (.ifCond .eq 27, 3) := by decide +kernel
theorem dX4_coinByte_19 : decode cX4_coinByte 19 = .ok (.iload_n 2, 1) := by decide +kernel
theorem dX4_coinByte_20 : decode cX4_coinByte 20 = .ok (.iconst 1, 1) := by decide +kernel
theorem dX4_coinByte_21 : decode cX4_coinByte 21 = .ok (.aload_n 0, 1) := by decide +kernel
theorem dX4_coinByte_22 : decode cX4_coinByte 22 = .ok (.getfield 51, 3) := by decide +kernel
theorem dX4_coinByte_25 : decode cX4_coinByte 25 = .ok (.iload_n 1, 1) := by decide +kernel
theorem dX4_coinByte_26 : decode cX4_coinByte 26 = .ok (.iaload, 1) := by decide +kernel
theorem dX4_coinByte_27 : decode cX4_coinByte 27 = .ok (.invokestatic 259, 3) := by decide +kernel
theorem dX4_coinByte_30 : decode cX4_coinByte 30 = .ok (.ifCond .eq 13, 3) := by decide +kernel
theorem dX4_coinByte_33 : decode cX4_coinByte 33 = .ok (.iload_n 3, 1) := by decide +kernel
theorem dX4_coinByte_34 : decode cX4_coinByte 34 = .ok (.iconst 0, 1) := by decide +kernel
theorem dX4_coinByte_35 : decode cX4_coinByte 35 = .ok (.bipush 19, 2) := by decide +kernel
theorem dX4_coinByte_37 : decode cX4_coinByte 37 = .ok (.invokestatic 259, 3) := by decide +kernel
theorem dX4_coinByte_40 : decode cX4_coinByte 40 = .ok (.ifCond .ne 5, 3) := by decide +kernel
theorem dX4_coinByte_43 : decode cX4_coinByte 43 = .ok (.iconst (-1), 1) := by decide +kernel
theorem dX4_coinByte_44 : decode cX4_coinByte 44 = .ok (.ireturn, 1) := by decide +kernel
theorem dX4_coinByte_45 : decode cX4_coinByte 45 = .ok (.aload_n 0, 1) := by decide +kernel
theorem dX4_coinByte_46 : decode cX4_coinByte 46 = .ok (.iload_n 1, 1) := by decide +kernel
theorem dX4_coinByte_47 : decode cX4_coinByte 47 = .ok (.iload_n 2, 1) := by decide +kernel
theorem dX4_coinByte_48 : decode cX4_coinByte 48 = .ok (.invokevirtual 228, 3) := by decide +kernel
theorem dX4_coinByte_51 : decode cX4_coinByte 51 = .ok (.aload_n 0, 1) := by decide +kernel
theorem dX4_coinByte_52 : decode cX4_coinByte 52 = .ok (.getfield 32, 3) := by decide +kernel
theorem dX4_coinByte_55 : decode cX4_coinByte 55 = .ok (.iload_n 3, 1) := by decide +kernel
theorem dX4_coinByte_56 : decode cX4_coinByte 56 = .ok (.baload, 1) := by decide +kernel
theorem dX4_coinByte_57 : decode cX4_coinByte 57 = .ok (.sipush 255, 3) := by decide +kernel
theorem dX4_coinByte_60 : decode cX4_coinByte 60 = .ok (.iand, 1) := by decide +kernel
theorem dX4_coinByte_61 : decode cX4_coinByte 61 = .ok (.ireturn, 1) := by decide +kernel
theorem dX4_letterByte_0 : decode cX4_letterByte 0 = .ok (.aload_n 0, 1) := by decide +kernel
theorem dX4_letterByte_1 : decode cX4_letterByte 1 = .ok (.iconst 0, 1) := by decide +kernel
theorem dX4_letterByte_2 : decode cX4_letterByte 2 = .ok (.putfield 121, 3) := by decide +kernel
theorem dX4_letterByte_5 : decode cX4_letterByte 5 = .ok (.iload_n 1, 1) := by decide +kernel
theorem dX4_letterByte_6 : decode cX4_letterByte 6 = .ok (.iconst 0, 1) := by decide +kernel
theorem dX4_letterByte_7 : decode cX4_letterByte 7 = .ok (.aload_n 0, 1) := by decide +kernel
theorem dX4_letterByte_8 : decode cX4_letterByte 8 = .ok (.getfield 265, 3) := by decide +kernel
theorem dX4_letterByte_11 : decode cX4_letterByte 11 = .ok (.iconst 1, 1) := by decide +kernel
theorem dX4_letterByte_12 : decode cX4_letterByte 12 = .ok (.isub, 1) := by decide +kernel
theorem dX4_letterByte_13 : decode cX4_letterByte 13 = .ok (.invokestatic 259, 3) := by decide +kernel
theorem dX4_letterByte_16 : decode cX4_letterByte 16 = .ok (.ifCond .eq 14, 3) := by decide +kernel
theorem dX4_letterByte_19 : decode cX4_letterByte 19 = .ok (.iload_n 2, 1) := by decide +kernel
theorem dX4_letterByte_20 : decode cX4_letterByte 20 = .ok (.iconst 0, 1) := by decide +kernel
theorem dX4_letterByte_21 : decode cX4_letterByte 21 = .ok (.sipush 203, 3) := by decide +kernel
theorem dX4_letterByte_24 : decode cX4_letterByte 24 = .ok (.invokestatic 259, 3) := by decide +kernel
theorem dX4_letterByte_27 : decode cX4_letterByte 27 = .ok (.ifCond .ne 5, 3) := by decide +kernel
theorem dX4_letterByte_30 : decode cX4_letterByte 30 = .ok (.iconst (-1), 1) := by decide +kernel
theorem dX4_letterByte_31 : decode cX4_letterByte 31 = .ok (.ireturn, 1) := by decide +kernel
theorem dX4_letterByte_32 : decode cX4_letterByte 32 = .ok (.aload_n 0, 1) := by decide +kernel
theorem dX4_letterByte_33 : decode cX4_letterByte 33 = .ok (.iload_n 1, 1) := by decide +kernel
theorem dX4_letterByte_34 : decode cX4_letterByte 34 = .ok (.invokevirtual 271, 3) := by decide +kernel
theorem dX4_letterByte_37 : decode cX4_letterByte 37 = .ok (.aload_n 0, 1) := by decide +kernel
theorem dX4_letterByte_38 : decode cX4_letterByte 38 = .ok (.getfield 38, 3) := by decide +kernel
theorem dX4_letterByte_41 : decode cX4_letterByte 41 = .ok (.iload_n 2, 1) := by decide +kernel
theorem dX4_letterByte_42 : decode cX4_letterByte 42 = .ok (.baload, 1) := by decide +kernel
theorem dX4_letterByte_43 : decode cX4_letterByte 43 = .ok (.sipush 255, 3) := by decide +kernel
theorem dX4_letterByte_46 : decode cX4_letterByte 46 = .ok (.iand, 1) := by decide +kernel
theorem dX4_letterByte_47 : decode cX4_letterByte 47 = .ok (.ireturn, 1) := by decide +kernel
theorem dX4_powerCut_0 : decode cX4_powerCut 0 = .ok (.aload_n 0, 1) := by decide +kernel
theorem dX4_powerCut_1 : decode cX4_powerCut 1 = .ok (.iconst 0, 1) := by decide +kernel
theorem dX4_powerCut_2 : decode cX4_powerCut 2 = .ok (.putfield 121, 3) := by decide +kernel
theorem dX4_powerCut_5 : decode cX4_powerCut 5 = .ok (.iload_n 1, 1) := by decide +kernel
theorem dX4_powerCut_6 : decode cX4_powerCut 6 = .ok (.iconst 0, 1) := by decide +kernel
theorem dX4_powerCut_7 : decode cX4_powerCut 7 = .ok (.bipush 7, 2) := by decide +kernel
theorem dX4_powerCut_9 : decode cX4_powerCut 9 = .ok (.invokestatic 259, 3) := by decide +kernel
theorem dX4_powerCut_12 : decode cX4_powerCut 12 = .ok (.ifCond .eq 12, 3) := by decide +kernel
theorem dX4_powerCut_15 : decode cX4_powerCut 15 = .ok (.iload_n 2, 1) := by decide +kernel
theorem dX4_powerCut_16 : decode cX4_powerCut 16 = .ok (.iconst 0, 1) := by decide +kernel
theorem dX4_powerCut_17 : decode cX4_powerCut 17 = .ok (.iconst 3, 1) := by decide +kernel
theorem dX4_powerCut_18 : decode cX4_powerCut 18 = .ok (.invokestatic 259, 3) := by decide +kernel
theorem dX4_powerCut_21 : decode cX4_powerCut 21 = .ok (.ifCond .ne 5, 3) := by decide +kernel
theorem dX4_powerCut_24 : decode cX4_powerCut 24 = .ok (.iconst 0, 1) := by decide +kernel
theorem dX4_powerCut_25 : decode cX4_powerCut 25 = .ok (.ireturn, 1) := by decide +kernel
theorem dX4_powerCut_26 : decode cX4_powerCut 26 = .ok (.aload_n 0, 1) := by decide +kernel
theorem dX4_powerCut_27 : decode cX4_powerCut 27 = .ok (.getfield 103, 3) := by decide +kernel
theorem dX4_powerCut_30 : decode cX4_powerCut 30 = .ok (.iload_n 1, 1) := by decide +kernel
theorem dX4_powerCut_31 : decode cX4_powerCut 31 = .ok (.iload_n 2, 1) := by decide +kernel
theorem dX4_powerCut_32 : decode cX4_powerCut 32 = .ok (.iastore, 1) := by decide +kernel
theorem dX4_powerCut_33 : decode cX4_powerCut 33 = .ok (.iconst 1, 1) := by decide +kernel
theorem dX4_powerCut_34 : decode cX4_powerCut 34 = .ok (.ireturn, 1) := by decide +kernel
theorem dX4_empty_0 : decode cX4_empty 0 = .ok (.aload_n 0, 1) := by decide +kernel
theorem dX4_empty_1 : decode cX4_empty 1 = .ok (.iconst 0, 1) := by decide +kernel
theorem dX4_empty_2 : decode cX4_empty 2 = .ok (.putfield 121, 3) := by decide +kernel
theorem dX4_empty_5 : decode cX4_empty 5 = .ok (.iload_n 1, 1) := by decide +kernel
theorem dX4_empty_6 : decode cX4_empty 6 = .ok (.iconst 0, 1) := by decide +kernel
theorem dX4_empty_7 : decode cX4_empty 7 = .ok (.bipush 7, 2) := by decide +kernel
theorem dX4_empty_9 : decode cX4_empty 9 = .ok (.invokestatic 259, 3) := by decide +kernel
theorem dX4_empty_12 : decode cX4_empty 12 = .ok (.ifCond .ne 5, 3) := by decide +kernel
theorem dX4_empty_15 : decode cX4_empty 15 = .ok (.iconst (-1), 1) := by decide +kernel
theorem dX4_empty_16 : decode cX4_empty 16 = .ok (.ireturn, 1) := by decide +kernel
theorem dX4_empty_17 : decode cX4_empty 17 = .ok (.aload_n 0, 1) := by decide +kernel
theorem dX4_empty_18 : decode cX4_empty 18 = .ok (.iload_n 1, 1) := by decide +kernel
theorem dX4_empty_19 : decode cX4_empty 19 = .ok (.invokevirtual 281, 3) := by decide +kernel
theorem dX4_empty_22 : decode cX4_empty 22 = .ok (.istore_n 2, 1) := by decide +kernel
theorem dX4_empty_23 : decode cX4_empty 23 = .ok (.aload_n 0, 1) := by decide +kernel
theorem dX4_empty_24 : decode cX4_empty 24 = .ok (.getfield 91, 3) := by decide +kernel
theorem dX4_empty_27 : decode cX4_empty 27 = .ok (.iload_n 1, 1) := by decide +kernel
theorem dX4_empty_28 : decode cX4_empty 28 = .ok (.aload_n 0, 1) := by decide +kernel
theorem dX4_empty_29 : decode cX4_empty 29 = .ok (.getfield 252, 3) := by decide +kernel
theorem dX4_empty_32 : decode cX4_empty 32 = .ok (.iconst 2, 1) := by decide +kernel
theorem dX4_empty_33 : decode cX4_empty 33 = .ok (.if_icmp .ge 10, 3) := by decide +kernel
theorem dX4_empty_36 : decode cX4_empty 36 = .ok (.aload_n 0, 1) := by decide +kernel
theorem dX4_empty_37 : decode cX4_empty 37 = .ok (.getfield 252, 3) := by decide +kernel
theorem dX4_empty_40 : decode cX4_empty 40 = .ok (.goto 4, 3) := by decide +kernel
theorem dX4_empty_43 : decode cX4_empty 43 = .ok (.iconst 2, 1) := by decide +kernel
theorem dX4_empty_44 : decode cX4_empty 44 = .ok (.iastore, 1) := by decide +kernel
theorem dX4_empty_45 : decode cX4_empty 45 = .ok (.aload_n 0, 1) := by decide +kernel
theorem dX4_empty_46 : decode cX4_empty 46 = .ok (.getfield 94, 3) := by decide +kernel
theorem dX4_empty_49 : decode cX4_empty 49 = .ok (.iconst 2, 1) := by decide +kernel
theorem dX4_empty_50 : decode cX4_empty 50 = .ok (.iload_n 1, 1) := by decide +kernel
theorem dX4_empty_51 : decode cX4_empty 51 = .ok (.imul, 1) := by decide +kernel
theorem dX4_empty_52 : decode cX4_empty 52 = .ok (.aload_n 0, 1) := by decide +kernel
theorem dX4_empty_53 : decode cX4_empty 53 = .ok (.getfield 239, 3) := by decide +kernel
theorem dX4_empty_56 : decode cX4_empty 56 = .ok (.lastore, 1) := by decide +kernel
theorem dX4_empty_57 : decode cX4_empty 57 = .ok (.aload_n 0, 1) := by decide +kernel
theorem dX4_empty_58 : decode cX4_empty 58 = .ok (.getfield 97, 3) := by decide +kernel
theorem dX4_empty_61 : decode cX4_empty 61 = .ok (.iconst 2, 1) := by decide +kernel
theorem dX4_empty_62 : decode cX4_empty 62 = .ok (.iload_n 1, 1) := by decide +kernel
theorem dX4_empty_63 : decode cX4_empty 63 = .ok (.imul, 1) := by decide +kernel
theorem dX4_empty_64 : decode cX4_empty 64 = .ok (.aload_n 0, 1) := by decide +kernel
theorem dX4_empty_65 : decode cX4_empty 65 = .ok (.getfield 246, 3) := by decide +kernel
theorem dX4_empty_68 : decode cX4_empty 68 = .ok (.lastore, 1) := by decide +kernel
theorem dX4_empty_69 : decode cX4_empty 69 = .ok (.aload_n 0, 1) := by decide +kernel
theorem dX4_empty_70 : decode cX4_empty 70 = .ok (.getfield 94, 3) := by decide +kernel
theorem dX4_empty_73 : decode cX4_empty 73 = .ok (.iconst 2, 1) := by decide +kernel
theorem dX4_empty_74 : decode cX4_empty 74 = .ok (.iload_n 1, 1) := by decide +kernel
theorem dX4_empty_75 : decode cX4_empty 75 = .ok (.imul, 1) := by decide +kernel
theorem dX4_empty_76 : decode cX4_empty 76 = .ok (.iconst 1, 1) := by decide +kernel
theorem dX4_empty_77 : decode cX4_empty 77 = .ok (.iadd, 1) := by decide +kernel
theorem dX4_empty_78 : decode cX4_empty 78 = .ok (.aload_n 0, 1) := by decide +kernel
theorem dX4_empty_79 : decode cX4_empty 79 = .ok (.getfield 243, 3) := by decide +kernel
theorem dX4_empty_82 : decode cX4_empty 82 = .ok (.lastore, 1) := by decide +kernel
theorem dX4_empty_83 : decode cX4_empty 83 = .ok (.aload_n 0, 1) := by decide +kernel
theorem dX4_empty_84 : decode cX4_empty 84 = .ok (.getfield 97, 3) := by decide +kernel
theorem dX4_empty_87 : decode cX4_empty 87 = .ok (.iconst 2, 1) := by decide +kernel
theorem dX4_empty_88 : decode cX4_empty 88 = .ok (.iload_n 1, 1) := by decide +kernel
theorem dX4_empty_89 : decode cX4_empty 89 = .ok (.imul, 1) := by decide +kernel
theorem dX4_empty_90 : decode cX4_empty 90 = .ok (.iconst 1, 1) := by decide +kernel
theorem dX4_empty_91 : decode cX4_empty 91 = .ok (.iadd, 1) := by decide +kernel
theorem dX4_empty_92 : decode cX4_empty 92 = .ok (.aload_n 0, 1) := by decide +kernel
theorem dX4_empty_93 : decode cX4_empty 93 = .ok (.getfield 249, 3) := by decide +kernel
theorem dX4_empty_96 : decode cX4_empty 96 = .ok (.lastore, 1) := by decide +kernel
theorem dX4_empty_97 : decode cX4_empty 97 = .ok (.aload_n 0, 1) := by decide +kernel
theorem dX4_empty_98 : decode cX4_empty 98 = .ok (.getfield 100, 3) := by decide +kernel
theorem dX4_empty_101 : decode cX4_empty 101 = .ok (.iload_n 1, 1) := by decide +kernel
theorem dX4_empty_102 : decode cX4_empty 102 = .ok (.iconst 0, 1) := by decide +kernel
theorem dX4_empty_103 : decode cX4_empty 103 = .ok (.iastore, 1) := by decide +kernel
theorem dX4_empty_104 : decode cX4_empty 104 = .ok (.iconst 0, 1) := by decide +kernel
theorem dX4_empty_105 : decode cX4_empty 105 = .ok (.istore_n 3, 1) := by decide +kernel
theorem dX4_empty_106 : decode cX4_empty 106 = .ok (.iload_n 3, 1) := by decide +kernel
theorem dX4_empty_107 : decode cX4_empty 107 = .ok (.bipush 16, 2) := by decide +kernel
theorem dX4_empty_109 : decode cX4_empty 109 = .ok (.if_icmp .ge 111, 3) := by decide +kernel
theorem dX4_empty_112 : decode cX4_empty 112 = .ok (.bipush 8, 2) := by decide +kernel
theorem dX4_empty_114 : decode cX4_empty 114 = .ok (.iload_n 3, 1) := by decide +kernel
theorem dX4_empty_115 : decode cX4_empty 115 = .ok (.imul, 1) := by decide +kernel
theorem dX4_empty_116 : decode cX4_empty 116 = .ok (.iload_n 1, 1) := by decide +kernel
theorem dX4_empty_117 : decode cX4_empty 117 = .ok (.iadd, 1) := by decide +kernel
theorem dX4_empty_118 : decode cX4_empty 118 = .ok (.istore 4, 2) := by decide +kernel
theorem dX4_empty_120 : decode cX4_empty 120 = .ok (.aload_n 0, 1) := by decide +kernel
theorem dX4_empty_121 : decode cX4_empty 121 = .ok (.getfield 100, 3) := by decide +kernel
theorem dX4_empty_124 : decode cX4_empty 124 = .ok (.iload_n 1, 1) := by decide +kernel
theorem dX4_empty_125 : decode cX4_empty 125 = .ok (.dup2, 1) := by decide +kernel
theorem dX4_empty_126 : decode cX4_empty 126 = .ok (.iaload, 1) := by decide +kernel
theorem dX4_empty_127 : decode cX4_empty 127 = .ok (.aload_n 0, 1) := by decide +kernel
theorem dX4_empty_128 : decode cX4_empty 128 = .ok (.getfield 78, 3) := by decide +kernel
theorem dX4_empty_131 : decode cX4_empty 131 = .ok (.iload_n 3, 1) := by decide +kernel
theorem dX4_empty_132 : decode cX4_empty 132 = .ok (.baload, 1) := by decide +kernel
theorem dX4_empty_133 : decode cX4_empty 133 = .ok (.ifCond .eq 9, 3) := by decide +kernel
theorem dX4_empty_136 : decode cX4_empty 136 = .ok (.iconst 1, 1) := by decide +kernel
theorem dX4_empty_137 : decode cX4_empty 137 = .ok (.iload_n 3, 1) := by decide +kernel
theorem dX4_empty_138 : decode cX4_empty 138 = .ok (.ishl, 1) := by decide +kernel
theorem dX4_empty_139 : decode cX4_empty 139 = .ok (.goto 4, 3) := by decide +kernel
theorem dX4_empty_142 : decode cX4_empty 142 = .ok (.iconst 0, 1) := by decide +kernel
theorem dX4_empty_143 : decode cX4_empty 143 = .ok (.ior, 1) := by decide +kernel
theorem dX4_empty_144 : decode cX4_empty 144 = .ok (.iastore, 1) := by decide +kernel
theorem dX4_empty_145 : decode cX4_empty 145 = .ok (.aload_n 0, 1) := by decide +kernel
theorem dX4_empty_146 : decode cX4_empty 146 = .ok (.getfield 85, 3) := by decide +kernel
theorem dX4_empty_149 : decode cX4_empty 149 = .ok (.iload 4, 2) := by decide +kernel
theorem dX4_empty_151 : decode cX4_empty 151 = .ok (.aload_n 0, 1) := by decide +kernel
theorem dX4_empty_152 : decode cX4_empty 152 = .ok (.getfield 106, 3) := by decide +kernel
theorem dX4_empty_155 : decode cX4_empty 155 = .ok (.iload 4, 2) := by decide +kernel
theorem dX4_empty_157 : decode cX4_empty 157 = .ok (.baload, 1) := by decide +kernel
theorem dX4_empty_158 : decode cX4_empty 158 = .ok (.ifCond .eq 13, 3) := by decide +kernel
theorem dX4_empty_161 : decode cX4_empty 161 = .ok (.aload_n 0, 1) := by decide +kernel
theorem dX4_empty_162 : decode cX4_empty 162 = .ok (.getfield 109, 3) := by decide +kernel
theorem dX4_empty_165 : decode cX4_empty 165 = .ok (.iload 4, 2) := by decide +kernel
theorem dX4_empty_167 : decode cX4_empty 167 = .ok (.iaload, 1) := by decide +kernel
theorem dX4_empty_168 : decode cX4_empty 168 = .ok (.goto 10, 3) := by decide +kernel
theorem dX4_empty_171 : decode cX4_empty 171 = .ok (.aload_n 0, 1) := by decide +kernel
theorem dX4_empty_172 : decode cX4_empty 172 = .ok (.getfield 85, 3) := by decide +kernel
theorem dX4_empty_175 : decode cX4_empty 175 = .ok (.iload 4, 2) := by decide +kernel
theorem dX4_empty_177 : decode cX4_empty 177 = .ok (.iaload, 1) := by decide +kernel
theorem dX4_empty_178 : decode cX4_empty 178 = .ok (.iastore, 1) := by decide +kernel
theorem dX4_empty_179 : decode cX4_empty 179 = .ok (.aload_n 0, 1) := by decide +kernel
theorem dX4_empty_180 : decode cX4_empty 180 = .ok (.getfield 106, 3) := by decide +kernel
theorem dX4_empty_183 : decode cX4_empty 183 = .ok (.iload 4, 2) := by decide +kernel
theorem dX4_empty_185 : decode cX4_empty 185 = .ok (.aload_n 0, 1) := by decide +kernel
theorem dX4_empty_186 : decode cX4_empty 186 = .ok (.getfield 106, 3) := by decide +kernel
theorem dX4_empty_189 : decode cX4_empty 189 = .ok (.iload 4, 2) := by decide +kernel
theorem dX4_empty_191 : decode cX4_empty 191 = .ok (.baload, 1) := by decide +kernel
theorem dX4_empty_192 : decode cX4_empty 192 = .ok (.ifCond .eq 20, 3) := by decide +kernel
theorem dX4_empty_195 : decode cX4_empty 195 = .ok (.aload_n 0, 1) := by decide +kernel
theorem dX4_empty_196 : decode cX4_empty 196 = .ok (.getfield 255, 3) := by decide +kernel
theorem dX4_empty_199 : decode cX4_empty 199 = .ok (.aload_n 0, 1) := by decide +kernel
theorem dX4_empty_200 : decode cX4_empty 200 = .ok (.getfield 63, 3) := by decide +kernel
theorem dX4_empty_203 : decode cX4_empty 203 = .ok (.iload_n 3, 1) := by decide +kernel
theorem dX4_empty_204 : decode cX4_empty 204 = .ok (.iaload, 1) := by decide +kernel
theorem dX4_empty_205 : decode cX4_empty 205 = .ok (.if_icmp .gt 7, 3) := by decide +kernel
theorem dX4_empty_208 : decode cX4_empty 208 = .ok (.iconst 1, 1) := by decide +kernel
theorem dX4_empty_209 : decode cX4_empty 209 = .ok (.goto 4, 3) := by decide +kernel
theorem dX4_empty_212 : decode cX4_empty 212 = .ok (.iconst 0, 1) := by decide +kernel
theorem dX4_empty_213 : decode cX4_empty 213 = .ok (.bastore, 1) := by decide +kernel
theorem dX4_empty_214 : decode cX4_empty 214 = .ok (.iinc 3 1, 3) := by decide +kernel
theorem dX4_empty_217 : decode cX4_empty 217 = .ok (.goto (-111), 3) := by decide +kernel
theorem dX4_empty_220 : decode cX4_empty 220 = .ok (.iload_n 2, 1) := by decide +kernel
theorem dX4_empty_221 : decode cX4_empty 221 = .ok (.ireturn, 1) := by decide +kernel
