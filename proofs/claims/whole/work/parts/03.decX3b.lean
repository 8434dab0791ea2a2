theorem dX3_hand_0 : decode cX3_hand 0 = .ok (.aload_n 2, 1) := by decide +kernel
theorem dX3_hand_1 : decode cX3_hand 1 = .ok (.aload_n 1, 1) := by decide +kernel
theorem dX3_hand_2 : decode cX3_hand 2 = .ok (.iload_n 3, 1) := by decide +kernel
theorem dX3_hand_3 : decode cX3_hand 3 = .ok (.aload 4, 2) := by decide +kernel
theorem dX3_hand_5 : decode cX3_hand 5 = .ok (.iload 5, 2) := by decide +kernel
theorem dX3_hand_7 : decode cX3_hand 7 = .ok (.aload_n 0, 1) := by decide +kernel
theorem dX3_hand_8 : decode cX3_hand 8 = .ok (.getfield 10, 3) := by decide +kernel
theorem dX3_hand_11 : decode cX3_hand 11 = .ok (.invokevirtual 212, 3) := by decide +kernel
theorem dX3_hand_14 : decode cX3_hand 14 = .ok (.ifCond .ne 6, 3) := by decide +kernel
theorem dX3_hand_17 : decode cX3_hand 17 = .ok (.bipush (-4), 2) := by decide +kernel
theorem dX3_hand_19 : decode cX3_hand 19 = .ok (.ireturn, 1) := by decide +kernel
theorem dX3_hand_20 : decode cX3_hand 20 = .ok (.aload_n 2, 1) := by decide +kernel
theorem dX3_hand_21 : decode cX3_hand 21 = .ok (.invokevirtual 109, 3) := by decide +kernel
theorem dX3_hand_24 : decode cX3_hand 24 = .ok (.ifCond .ne 6, 3) := by decide +kernel
theorem dX3_hand_27 : decode cX3_hand 27 = .ok (.bipush (-5), 2) := by decide +kernel
theorem dX3_hand_29 : decode cX3_hand 29 = .ok (.ireturn, 1) := by decide +kernel
theorem dX3_hand_30 : decode cX3_hand 30 = .ok (.aload_n 2, 1) := by decide +kernel
theorem dX3_hand_31 : decode cX3_hand 31 = .ok (.aload_n 1, 1) := by decide +kernel
theorem dX3_hand_32 : decode cX3_hand 32 = .ok (.iload_n 3, 1) := by decide +kernel
theorem dX3_hand_33 : decode cX3_hand 33 = .ok (.aload 4, 2) := by decide +kernel
theorem dX3_hand_35 : decode cX3_hand 35 = .ok (.iload 5, 2) := by decide +kernel
theorem dX3_hand_37 : decode cX3_hand 37 = .ok (.invokevirtual 216, 3) := by decide +kernel
theorem dX3_hand_40 : decode cX3_hand 40 = .ok (.istore 7, 2) := by decide +kernel
theorem dX3_hand_42 : decode cX3_hand 42 = .ok (.aload_n 2, 1) := by decide +kernel
theorem dX3_hand_43 : decode cX3_hand 43 = .ok (.getfield 199, 3) := by decide +kernel
theorem dX3_hand_46 : decode cX3_hand 46 = .ok (.iload 6, 2) := by decide +kernel
theorem dX3_hand_48 : decode cX3_hand 48 = .ok (.dup2, 1) := by decide +kernel
theorem dX3_hand_49 : decode cX3_hand 49 = .ok (.iaload, 1) := by decide +kernel
theorem dX3_hand_50 : decode cX3_hand 50 = .ok (.iload 7, 2) := by decide +kernel
theorem dX3_hand_52 : decode cX3_hand 52 = .ok (.iadd, 1) := by decide +kernel
theorem dX3_hand_53 : decode cX3_hand 53 = .ok (.iastore, 1) := by decide +kernel
theorem dX3_hand_54 : decode cX3_hand 54 = .ok (.iload 7, 2) := by decide +kernel
theorem dX3_hand_56 : decode cX3_hand 56 = .ok (.ireturn, 1) := by decide +kernel
theorem dX3_offer_0 : decode cX3_offer 0 = .ok (.aload_n 0, 1) := by decide +kernel
theorem dX3_offer_1 : decode cX3_offer 1 = .ok (.iload_n 1, 1) := by decide +kernel
theorem dX3_offer_2 : decode cX3_offer 2 = .ok (.invokevirtual 97, 3) := by decide +kernel
theorem dX3_offer_5 : decode cX3_offer 5 = .ok (.astore 5, 2) := by decide +kernel
theorem dX3_offer_7 : decode cX3_offer 7 = .ok (.aload_n 0, 1) := by decide +kernel
theorem dX3_offer_8 : decode cX3_offer 8 = .ok (.iload_n 2, 1) := by decide +kernel
theorem dX3_offer_9 : decode cX3_offer 9 = .ok (.invokevirtual 101, 3) := by decide +kernel
theorem dX3_offer_12 : decode cX3_offer 12 = .ok (.astore 6, 2) := by decide +kernel
theorem dX3_offer_14 : decode cX3_offer 14 = .ok (.aload 5, 2) := by decide +kernel
theorem dX3_offer_16 : decode cX3_offer 16 = .ok (.ifnull 16, 3) := by decide +kernel
theorem dX3_offer_19 : decode cX3_offer 19 = .ok (.aload 6, 2) := by decide +kernel
theorem dX3_offer_21 : decode cX3_offer 21 = .ok (.ifnull 11, 3) := by decide +kernel
theorem dX3_offer_24 : decode cX3_offer 24 = .ok (.iload 4, 2) := by decide +kernel
theorem dX3_offer_26 : decode cX3_offer 26 = .ok (.invokestatic 117, 3) := by decide +kernel
theorem dX3_offer_29 : decode cX3_offer 29 = .ok (.ifCond .ne 5, 3) := by decide +kernel
theorem dX3_offer_32 : decode cX3_offer 32 = .ok (.iconst (-1), 1) := by decide +kernel
theorem dX3_offer_33 : decode cX3_offer 33 = .ok (.ireturn, 1) := by decide +kernel
theorem dX3_offer_34 : decode cX3_offer 34 = .ok (.aload 6, 2) := by decide +kernel
theorem dX3_offer_36 : decode cX3_offer 36 = .ok (.aload 5, 2) := by decide +kernel
theorem dX3_offer_38 : decode cX3_offer 38 = .ok (.aload_n 0, 1) := by decide +kernel
theorem dX3_offer_39 : decode cX3_offer 39 = .ok (.getfield 59, 3) := by decide +kernel
theorem dX3_offer_42 : decode cX3_offer 42 = .ok (.invokevirtual 120, 3) := by decide +kernel
theorem dX3_offer_45 : decode cX3_offer 45 = .ok (.ifCond .ne 6, 3) := by decide +kernel
theorem dX3_offer_48 : decode cX3_offer 48 = .ok (.bipush (-2), 2) := by decide +kernel
theorem dX3_offer_50 : decode cX3_offer 50 = .ok (.ireturn, 1) := by decide +kernel
theorem dX3_offer_51 : decode cX3_offer 51 = .ok (.aload 5, 2) := by decide +kernel
theorem dX3_offer_53 : decode cX3_offer 53 = .ok (.iload_n 3, 1) := by decide +kernel
theorem dX3_offer_54 : decode cX3_offer 54 = .ok (.invokevirtual 128, 3) := by decide +kernel
theorem dX3_offer_57 : decode cX3_offer 57 = .ok (.ifCond .eq 14, 3) := by decide +kernel
theorem dX3_offer_60 : decode cX3_offer 60 = .ok (.aload 6, 2) := by decide +kernel
theorem dX3_offer_62 : decode cX3_offer 62 = .ok (.aload 5, 2) := by decide +kernel
theorem dX3_offer_64 : decode cX3_offer 64 = .ok (.iload_n 3, 1) := by decide +kernel
theorem dX3_offer_65 : decode cX3_offer 65 = .ok (.invokevirtual 142, 3) := by decide +kernel
theorem dX3_offer_68 : decode cX3_offer 68 = .ok (.ifCond .ne 6, 3) := by decide +kernel
theorem dX3_offer_71 : decode cX3_offer 71 = .ok (.bipush (-3), 2) := by decide +kernel
theorem dX3_offer_73 : decode cX3_offer 73 = .ok (.ireturn, 1) := by decide +kernel
theorem dX3_offer_74 : decode cX3_offer 74 = .ok (.aload_n 0, 1) := by decide +kernel
theorem dX3_offer_75 : decode cX3_offer 75 = .ok (.aload 5, 2) := by decide +kernel
theorem dX3_offer_77 : decode cX3_offer 77 = .ok (.aload 6, 2) := by decide +kernel
theorem dX3_offer_79 : decode cX3_offer 79 = .ok (.iload_n 3, 1) := by decide +kernel
theorem dX3_offer_80 : decode cX3_offer 80 = .ok (.aload_n 0, 1) := by decide +kernel
theorem dX3_offer_81 : decode cX3_offer 81 = .ok (.getfield 35, 3) := by decide +kernel
theorem dX3_offer_84 : decode cX3_offer 84 = .ok (.iconst 0, 1) := by decide +kernel
theorem dX3_offer_85 : decode cX3_offer 85 = .ok (.iload 4, 2) := by decide +kernel
theorem dX3_offer_87 : decode cX3_offer 87 = .ok (.invokevirtual 138, 3) := by decide +kernel
theorem dX3_offer_90 : decode cX3_offer 90 = .ok (.ireturn, 1) := by decide +kernel
theorem dX3_poke_0 : decode cX3_poke 0 = .ok (.iload_n 1, 1) := by decide +kernel
theorem dX3_poke_1 : decode cX3_poke 1 = .ok (.iconst 0, 1) := by decide +kernel
theorem dX3_poke_2 : decode cX3_poke 2 = .ok (.bipush 19, 2) := by decide +kernel
theorem dX3_poke_4 : decode cX3_poke 4 = .ok (.invokestatic 75, 3) := by decide +kernel
theorem dX3_poke_7 : decode cX3_poke 7 = .ok (.ifCond .ne 5, 3) := by decide +kernel
theorem dX3_poke_10 : decode cX3_poke 10 = .ok (.iconst 0, 1) := by decide +kernel
theorem dX3_poke_11 : decode cX3_poke 11 = .ok (.ireturn, 1) := by decide +kernel
theorem dX3_poke_12 : decode cX3_poke 12 = .ok (.aload_n 0, 1) := by decide +kernel
theorem dX3_poke_13 : decode cX3_poke 13 = .ok (.getfield 35, 3) := by decide +kernel
theorem dX3_poke_16 : decode cX3_poke 16 = .ok (.iload_n 1, 1) := by decide +kernel
theorem dX3_poke_17 : decode cX3_poke 17 = .ok (.iload_n 2, 1) := by decide +kernel
theorem dX3_poke_18 : decode cX3_poke 18 = .ok (.i2b, 1) := by decide +kernel
theorem dX3_poke_19 : decode cX3_poke 19 = .ok (.bastore, 1) := by decide +kernel
theorem dX3_poke_20 : decode cX3_poke 20 = .ok (.iconst 1, 1) := by decide +kernel
theorem dX3_poke_21 : decode cX3_poke 21 = .ok (.ireturn, 1) := by decide +kernel
theorem dX3_coinByte_0 : decode cX3_coinByte 0 = .ok (.aload_n 0, 1) := by decide +kernel
theorem dX3_coinByte_1 : decode cX3_coinByte 1 = .ok (.iload_n 1, 1) := by decide +kernel
theorem dX3_coinByte_2 : decode cX3_coinByte 2 = .ok (.invokevirtual 97, 3) := by decide +kernel
theorem dX3_coinByte_5 : decode cX3_coinByte 5 = .ok (.astore 4, 2) := by decide +kernel
theorem dX3_coinByte_7 : decode cX3_coinByte 7 = .ok (.aload 4, 2) := by decide +kernel
theorem dX3_coinByte_9 : decode cX3_coinByte 9 = .ok (.ifnull 22, 3) := by decide +kernel
theorem dX3_coinByte_12 : decode cX3_coinByte 12 = .ok (.aload 4, 2) := by decide +kernel
theorem dX3_coinByte_14 : decode cX3_coinByte 14 = .ok (.iload_n 2, 1) := by decide +kernel
theorem dX3_coinByte_15 : decode cX3_coinByte 15 = .ok (.invokevirtual 128, 3) := by decide +kernel
theorem dX3_coinByte_18 : decode cX3_coinByte 18 = .ok (.ifCond .eq 13, 3) := by decide +kernel
theorem dX3_coinByte_21 : decode cX3_coinByte 21 = .ok (.iload_n 3, 1) := by decide +kernel
theorem dX3_coinByte_22 : decode cX3_coinByte 22 = .ok (.iconst 0, 1) := by decide +kernel
theorem dX3_coinByte_23 : decode cX3_coinByte 23 = .ok (.bipush 19, 2) := by decide +kernel
theorem dX3_coinByte_25 : decode cX3_coinByte 25 = .ok (.invokestatic 75, 3) := by decide +kernel
theorem dX3_coinByte_28 : decode cX3_coinByte 28 = .ok (.ifCond .ne 5, 3) := by decide +kernel
theorem dX3_coinByte_31 : decode cX3_coinByte 31 = .ok (.iconst (-1), 1) := by decide +kernel
theorem dX3_coinByte_32 : decode cX3_coinByte 32 = .ok (.ireturn, 1) := by decide +kernel
theorem dX3_coinByte_33 : decode cX3_coinByte 33 = .ok (.aload 4, 2) := by decide +kernel
theorem dX3_coinByte_35 : decode cX3_coinByte 35 = .ok (.getfield 131, 3) := by decide +kernel
theorem dX3_coinByte_38 : decode cX3_coinByte 38 = .ok (.aload 4, 2) := by decide +kernel
theorem dX3_coinByte_40 : decode cX3_coinByte 40 = .ok (.iload_n 2, 1) := by decide +kernel
theorem dX3_coinByte_41 : decode cX3_coinByte 41 = .ok (.invokevirtual 134, 3) := by decide +kernel
theorem dX3_coinByte_44 : decode cX3_coinByte 44 = .ok (.iload_n 3, 1) := by decide +kernel
theorem dX3_coinByte_45 : decode cX3_coinByte 45 = .ok (.iadd, 1) := by decide +kernel
theorem dX3_coinByte_46 : decode cX3_coinByte 46 = .ok (.baload, 1) := by decide +kernel
theorem dX3_coinByte_47 : decode cX3_coinByte 47 = .ok (.sipush 255, 3) := by decide +kernel
theorem dX3_coinByte_50 : decode cX3_coinByte 50 = .ok (.iand, 1) := by decide +kernel
theorem dX3_coinByte_51 : decode cX3_coinByte 51 = .ok (.ireturn, 1) := by decide +kernel
theorem dX3_letterByte_0 : decode cX3_letterByte 0 = .ok (.aload_n 0, 1) := by decide +kernel
theorem dX3_letterByte_1 : decode cX3_letterByte 1 = .ok (.iload_n 1, 1) := by decide +kernel
theorem dX3_letterByte_2 : decode cX3_letterByte 2 = .ok (.invokevirtual 97, 3) := by decide +kernel
theorem dX3_letterByte_5 : decode cX3_letterByte 5 = .ok (.astore_n 3, 1) := by decide +kernel
theorem dX3_letterByte_6 : decode cX3_letterByte 6 = .ok (.aload_n 3, 1) := by decide +kernel
theorem dX3_letterByte_7 : decode cX3_letterByte 7 = .ok (.ifnull 14, 3) := by decide +kernel
theorem dX3_letterByte_10 : decode cX3_letterByte 10 = .ok (.iload_n 2, 1) := by decide +kernel
theorem dX3_letterByte_11 : decode cX3_letterByte 11 = .ok (.iconst 0, 1) := by decide +kernel
theorem dX3_letterByte_12 : decode cX3_letterByte 12 = .ok (.sipush 203, 3) := by decide +kernel
theorem dX3_letterByte_15 : decode cX3_letterByte 15 = .ok (.invokestatic 75, 3) := by decide +kernel
theorem dX3_letterByte_18 : decode cX3_letterByte 18 = .ok (.ifCond .ne 5, 3) := by decide +kernel
theorem dX3_letterByte_21 : decode cX3_letterByte 21 = .ok (.iconst (-1), 1) := by decide +kernel
theorem dX3_letterByte_22 : decode cX3_letterByte 22 = .ok (.ireturn, 1) := by decide +kernel
theorem dX3_letterByte_23 : decode cX3_letterByte 23 = .ok (.aload_n 3, 1) := by decide +kernel
theorem dX3_letterByte_24 : decode cX3_letterByte 24 = .ok (.getfield 145, 3) := by decide +kernel
theorem dX3_letterByte_27 : decode cX3_letterByte 27 = .ok (.iload_n 2, 1) := by decide +kernel
theorem dX3_letterByte_28 : decode cX3_letterByte 28 = .ok (.baload, 1) := by decide +kernel
theorem dX3_letterByte_29 : decode cX3_letterByte 29 = .ok (.sipush 255, 3) := by decide +kernel
theorem dX3_letterByte_32 : decode cX3_letterByte 32 = .ok (.iand, 1) := by decide +kernel
theorem dX3_letterByte_33 : decode cX3_letterByte 33 = .ok (.ireturn, 1) := by decide +kernel
theorem dX3_powerCut_0 : decode cX3_powerCut 0 = .ok (.aload_n 0, 1) := by decide +kernel
theorem dX3_powerCut_1 : decode cX3_powerCut 1 = .ok (.iload_n 1, 1) := by decide +kernel
theorem dX3_powerCut_2 : decode cX3_powerCut 2 = .ok (.invokevirtual 101, 3) := by decide +kernel
theorem dX3_powerCut_5 : decode cX3_powerCut 5 = .ok (.astore_n 3, 1) := by decide +kernel
theorem dX3_powerCut_6 : decode cX3_powerCut 6 = .ok (.aload_n 3, 1) := by decide +kernel
theorem dX3_powerCut_7 : decode cX3_powerCut 7 = .ok (.ifnull 12, 3) := by decide +kernel
theorem dX3_powerCut_10 : decode cX3_powerCut 10 = .ok (.iload_n 2, 1) := by decide +kernel
theorem dX3_powerCut_11 : decode cX3_powerCut 11 = .ok (.iconst 0, 1) := by decide +kernel
theorem dX3_powerCut_12 : decode cX3_powerCut 12 = .ok (.iconst 3, 1) := by decide +kernel
theorem dX3_powerCut_13 : decode cX3_powerCut 13 = .ok (.invokestatic 75, 3) := by decide +kernel
theorem dX3_powerCut_16 : decode cX3_powerCut 16 = .ok (.ifCond .ne 5, 3) := by decide +kernel
theorem dX3_powerCut_19 : decode cX3_powerCut 19 = .ok (.iconst 0, 1) := by decide +kernel
theorem dX3_powerCut_20 : decode cX3_powerCut 20 = .ok (.ireturn, 1) := by decide +kernel
theorem dX3_powerCut_21 : decode cX3_powerCut 21 = .ok (.aload_n 3, 1) := by decide +kernel
theorem dX3_powerCut_22 : decode cX3_powerCut 22 = .ok (.iload_n 2, 1) := by decide +kernel
theorem dX3_powerCut_23 : decode cX3_powerCut 23 = .ok (.putfield 148, 3) := by decide +kernel
theorem dX3_powerCut_26 : decode cX3_powerCut 26 = .ok (.iconst 1, 1) := by decide +kernel
theorem dX3_powerCut_27 : decode cX3_powerCut 27 = .ok (.ireturn, 1) := by decide +kernel
theorem dX3_empty_0 : decode cX3_empty 0 = .ok (.aload_n 0, 1) := by decide +kernel
theorem dX3_empty_1 : decode cX3_empty 1 = .ok (.iload_n 1, 1) := by decide +kernel
theorem dX3_empty_2 : decode cX3_empty 2 = .ok (.invokevirtual 101, 3) := by decide +kernel
theorem dX3_empty_5 : decode cX3_empty 5 = .ok (.astore_n 2, 1) := by decide +kernel
theorem dX3_empty_6 : decode cX3_empty 6 = .ok (.aload_n 2, 1) := by decide +kernel
theorem dX3_empty_7 : decode cX3_empty 7 = .ok (.ifnonnull 5, 3) := by decide +kernel
theorem dX3_empty_10 : decode cX3_empty 10 = .ok (.iconst (-1), 1) := by decide +kernel
theorem dX3_empty_11 : decode cX3_empty 11 = .ok (.ireturn, 1) := by decide +kernel
theorem dX3_empty_12 : decode cX3_empty 12 = .ok (.aload_n 2, 1) := by decide +kernel
theorem dX3_empty_13 : decode cX3_empty 13 = .ok (.getfield 151, 3) := by decide +kernel
theorem dX3_empty_16 : decode cX3_empty 16 = .ok (.istore_n 3, 1) := by decide +kernel
theorem dX3_empty_17 : decode cX3_empty 17 = .ok (.iconst 0, 1) := by decide +kernel
theorem dX3_empty_18 : decode cX3_empty 18 = .ok (.istore 4, 2) := by decide +kernel
theorem dX3_empty_20 : decode cX3_empty 20 = .ok (.iload 4, 2) := by decide +kernel
theorem dX3_empty_22 : decode cX3_empty 22 = .ok (.aload_n 0, 1) := by decide +kernel
theorem dX3_empty_23 : decode cX3_empty 23 = .ok (.getfield 72, 3) := by decide +kernel
theorem dX3_empty_26 : decode cX3_empty 26 = .ok (.if_icmp .ge 21, 3) := by decide +kernel
theorem dX3_empty_29 : decode cX3_empty 29 = .ok (.aload_n 0, 1) := by decide +kernel
theorem dX3_empty_30 : decode cX3_empty 30 = .ok (.aload_n 2, 1) := by decide +kernel
theorem dX3_empty_31 : decode cX3_empty 31 = .ok (.aload_n 0, 1) := by decide +kernel
theorem dX3_empty_32 : decode cX3_empty 32 = .ok (.getfield 22, 3) := by decide +kernel
theorem dX3_empty_35 : decode cX3_empty 35 = .ok (.iload 4, 2) := by decide +kernel
theorem dX3_empty_37 : decode cX3_empty 37 = .ok (.aaload, 1) := by decide +kernel
theorem dX3_empty_38 : decode cX3_empty 38 = .ok (.invokevirtual 154, 3) := by decide +kernel
theorem dX3_empty_41 : decode cX3_empty 41 = .ok (.iinc 4 1, 3) := by decide +kernel
theorem dX3_empty_44 : decode cX3_empty 44 = .ok (.goto (-24), 3) := by decide +kernel
theorem dX3_empty_47 : decode cX3_empty 47 = .ok (.aload_n 0, 1) := by decide +kernel
theorem dX3_empty_48 : decode cX3_empty 48 = .ok (.getfield 39, 3) := by decide +kernel
theorem dX3_empty_51 : decode cX3_empty 51 = .ok (.iconst 0, 1) := by decide +kernel
theorem dX3_empty_52 : decode cX3_empty 52 = .ok (.aload_n 2, 1) := by decide +kernel
theorem dX3_empty_53 : decode cX3_empty 53 = .ok (.getfield 158, 3) := by decide +kernel
theorem dX3_empty_56 : decode cX3_empty 56 = .ok (.iconst 0, 1) := by decide +kernel
theorem dX3_empty_57 : decode cX3_empty 57 = .ok (.bipush 16, 2) := by decide +kernel
theorem dX3_empty_59 : decode cX3_empty 59 = .ok (.invokestatic 45, 3) := by decide +kernel
theorem dX3_empty_62 : decode cX3_empty 62 = .ok (.aload_n 0, 1) := by decide +kernel
theorem dX3_empty_63 : decode cX3_empty 63 = .ok (.getfield 42, 3) := by decide +kernel
theorem dX3_empty_66 : decode cX3_empty 66 = .ok (.iconst 0, 1) := by decide +kernel
theorem dX3_empty_67 : decode cX3_empty 67 = .ok (.aload_n 2, 1) := by decide +kernel
theorem dX3_empty_68 : decode cX3_empty 68 = .ok (.getfield 159, 3) := by decide +kernel
theorem dX3_empty_71 : decode cX3_empty 71 = .ok (.iconst 0, 1) := by decide +kernel
theorem dX3_empty_72 : decode cX3_empty 72 = .ok (.bipush 16, 2) := by decide +kernel
theorem dX3_empty_74 : decode cX3_empty 74 = .ok (.invokestatic 45, 3) := by decide +kernel
theorem dX3_empty_77 : decode cX3_empty 77 = .ok (.aload_n 2, 1) := by decide +kernel
theorem dX3_empty_78 : decode cX3_empty 78 = .ok (.aload_n 0, 1) := by decide +kernel
theorem dX3_empty_79 : decode cX3_empty 79 = .ok (.getfield 55, 3) := by decide +kernel
theorem dX3_empty_82 : decode cX3_empty 82 = .ok (.iconst 2, 1) := by decide +kernel
theorem dX3_empty_83 : decode cX3_empty 83 = .ok (.invokestatic 160, 3) := by decide +kernel
theorem dX3_empty_86 : decode cX3_empty 86 = .ok (.putfield 166, 3) := by decide +kernel
theorem dX3_empty_89 : decode cX3_empty 89 = .ok (.iload_n 3, 1) := by decide +kernel
theorem dX3_empty_90 : decode cX3_empty 90 = .ok (.ireturn, 1) := by decide +kernel
theorem dX3_readOut_0 : decode cX3_readOut 0 = .ok (.aload_n 2, 1) := by decide +kernel
theorem dX3_readOut_1 : decode cX3_readOut 1 = .ok (.getfield 94, 3) := by decide +kernel
theorem dX3_readOut_4 : decode cX3_readOut 4 = .ok (.istore_n 3, 1) := by decide +kernel
theorem dX3_readOut_5 : decode cX3_readOut 5 = .ok (.aload_n 1, 1) := by decide +kernel
theorem dX3_readOut_6 : decode cX3_readOut 6 = .ok (.getfield 192, 3) := by decide +kernel
theorem dX3_readOut_9 : decode cX3_readOut 9 = .ok (.iload_n 3, 1) := by decide +kernel
theorem dX3_readOut_10 : decode cX3_readOut 10 = .ok (.baload, 1) := by decide +kernel
theorem dX3_readOut_11 : decode cX3_readOut 11 = .ok (.ifCond .eq 34, 3) := by decide +kernel
theorem dX3_readOut_14 : decode cX3_readOut 14 = .ok (.aload_n 2, 1) := by decide +kernel
theorem dX3_readOut_15 : decode cX3_readOut 15 = .ok (.getfield 220, 3) := by decide +kernel
theorem dX3_readOut_18 : decode cX3_readOut 18 = .ok (.aload_n 1, 1) := by decide +kernel
theorem dX3_readOut_19 : decode cX3_readOut 19 = .ok (.getfield 223, 3) := by decide +kernel
theorem dX3_readOut_22 : decode cX3_readOut 22 = .ok (.aload_n 1, 1) := by decide +kernel
theorem dX3_readOut_23 : decode cX3_readOut 23 = .ok (.getfield 124, 3) := by decide +kernel
theorem dX3_readOut_26 : decode cX3_readOut 26 = .ok (.iload_n 3, 1) := by decide +kernel
theorem dX3_readOut_27 : decode cX3_readOut 27 = .ok (.iaload, 1) := by decide +kernel
theorem dX3_readOut_28 : decode cX3_readOut 28 = .ok (.iastore, 1) := by decide +kernel
theorem dX3_readOut_29 : decode cX3_readOut 29 = .ok (.aload_n 2, 1) := by decide +kernel
theorem dX3_readOut_30 : decode cX3_readOut 30 = .ok (.aload_n 0, 1) := by decide +kernel
theorem dX3_readOut_31 : decode cX3_readOut 31 = .ok (.getfield 59, 3) := by decide +kernel
theorem dX3_readOut_34 : decode cX3_readOut 34 = .ok (.invokevirtual 224, 3) := by decide +kernel
theorem dX3_readOut_37 : decode cX3_readOut 37 = .ok (.ifCond .eq 8, 3) := by decide +kernel
theorem dX3_readOut_40 : decode cX3_readOut 40 = .ok (.aload_n 1, 1) := by decide +kernel
theorem dX3_readOut_41 : decode cX3_readOut 41 = .ok (.aload_n 2, 1) := by decide +kernel
theorem dX3_readOut_42 : decode cX3_readOut 42 = .ok (.invokevirtual 227, 3) := by decide +kernel
theorem dX3_readOut_45 : decode cX3_readOut 45 = .ok (.aload_n 1, 1) := by decide +kernel
theorem dX3_readOut_46 : decode cX3_readOut 46 = .ok (.getfield 230, 3) := by decide +kernel
theorem dX3_readOut_49 : decode cX3_readOut 49 = .ok (.iload_n 3, 1) := by decide +kernel
theorem dX3_readOut_50 : decode cX3_readOut 50 = .ok (.aload_n 2, 1) := by decide +kernel
theorem dX3_readOut_51 : decode cX3_readOut 51 = .ok (.getfield 233, 3) := by decide +kernel
theorem dX3_readOut_54 : decode cX3_readOut 54 = .ok (.bastore, 1) := by decide +kernel
theorem dX3_readOut_55 : decode cX3_readOut 55 = .ok (.return_, 1) := by decide +kernel
theorem dX3_settle_0 : decode cX3_settle 0 = .ok (.iconst 0, 1) := by decide +kernel
theorem dX3_settle_1 : decode cX3_settle 1 = .ok (.istore_n 1, 1) := by decide +kernel
theorem dX3_settle_2 : decode cX3_settle 2 = .ok (.iconst 0, 1) := by decide +kernel
theorem dX3_settle_3 : decode cX3_settle 3 = .ok (.istore_n 2, 1) := by decide +kernel
theorem dX3_settle_4 : decode cX3_settle 4 = .ok (.iload_n 2, 1) := by decide +kernel
theorem dX3_settle_5 : decode cX3_settle 5 = .ok (.aload_n 0, 1) := by decide +kernel
theorem dX3_settle_6 : decode cX3_settle 6 = .ok (.getfield 72, 3) := by decide +kernel
theorem dX3_settle_9 : decode cX3_settle 9 = .ok (.if_icmp .ge 91, 3) := by decide +kernel
theorem dX3_settle_12 : decode cX3_settle 12 = .ok (.aload_n 0, 1) := by decide +kernel
theorem dX3_settle_13 : decode cX3_settle 13 = .ok (.getfield 22, 3) := by decide +kernel
theorem dX3_settle_16 : decode cX3_settle 16 = .ok (.iload_n 2, 1) := by decide +kernel
theorem dX3_settle_17 : decode cX3_settle 17 = .ok (.aaload, 1) := by decide +kernel
theorem dX3_settle_18 : decode cX3_settle 18 = .ok (.astore_n 3, 1) := by decide +kernel
theorem dX3_settle_19 : decode cX3_settle 19 = .ok (.iconst 0, 1) := by decide +kernel
theorem dX3_settle_20 : decode cX3_settle 20 = .ok (.istore 4, 2) := by decide +kernel
theorem dX3_settle_22 : decode cX3_settle 22 = .ok (.iload 4, 2) := by decide +kernel
theorem dX3_settle_24 : decode cX3_settle 24 = .ok (.bipush 8, 2) := by decide +kernel
theorem dX3_settle_26 : decode cX3_settle 26 = .ok (.if_icmp .ge 39, 3) := by decide +kernel
theorem dX3_settle_29 : decode cX3_settle 29 = .ok (.aload_n 3, 1) := by decide +kernel
theorem dX3_settle_30 : decode cX3_settle 30 = .ok (.iload 4, 2) := by decide +kernel
theorem dX3_settle_32 : decode cX3_settle 32 = .ok (.invokevirtual 169, 3) := by decide +kernel
theorem dX3_settle_35 : decode cX3_settle 35 = .ok (.lstore 5, 2) := by decide +kernel
theorem dX3_settle_37 : decode cX3_settle 37 = .ok (.aload_n 0, 1) := by decide +kernel
theorem dX3_settle_38 : decode cX3_settle 38 = .ok (.dup, 1) := by decide +kernel
theorem dX3_settle_39 : decode cX3_settle 39 = .ok (.getfield 90, 3) := by decide +kernel
theorem dX3_settle_42 : decode cX3_settle 42 = .ok (.lload 5, 2) := by decide +kernel
theorem dX3_settle_44 : decode cX3_settle 44 = .ok (.lsub, 1) := by decide +kernel
theorem dX3_settle_45 : decode cX3_settle 45 = .ok (.putfield 90, 3) := by decide +kernel
theorem dX3_settle_48 : decode cX3_settle 48 = .ok (.aload_n 0, 1) := by decide +kernel
theorem dX3_settle_49 : decode cX3_settle 49 = .ok (.dup, 1) := by decide +kernel
theorem dX3_settle_50 : decode cX3_settle 50 = .ok (.getfield 173, 3) := by decide +kernel
theorem dX3_settle_53 : decode cX3_settle 53 = .ok (.lload 5, 2) := by decide +kernel
theorem dX3_settle_55 : decode cX3_settle 55 = .ok (.ladd, 1) := by decide +kernel
theorem dX3_settle_56 : decode cX3_settle 56 = .ok (.putfield 173, 3) := by decide +kernel
theorem dX3_settle_59 : decode cX3_settle 59 = .ok (.iinc 4 1, 3) := by decide +kernel
theorem dX3_settle_62 : decode cX3_settle 62 = .ok (.goto (-40), 3) := by decide +kernel
theorem dX3_settle_65 : decode cX3_settle 65 = .ok (.aload_n 3, 1) := by decide +kernel
theorem dX3_settle_66 : decode cX3_settle 66 = .ok (.getfield 176, 3) := by decide +kernel
theorem dX3_settle_69 : decode cX3_settle 69 = .ok (.ifCond .ne 25, 3) := by decide +kernel
theorem dX3_settle_72 : decode cX3_settle 72 = .ok (.aload_n 0, 1) := by decide +kernel
theorem dX3_settle_73 : decode cX3_settle 73 = .ok (.getfield 59, 3) := by decide +kernel
theorem dX3_settle_76 : decode cX3_settle 76 = .ok (.aload_n 3, 1) := by decide +kernel
theorem dX3_settle_77 : decode cX3_settle 77 = .ok (.getfield 180, 3) := by decide +kernel
theorem dX3_settle_80 : decode cX3_settle 80 = .ok (.isub, 1) := by decide +kernel
theorem dX3_settle_81 : decode cX3_settle 81 = .ok (.bipush 7, 2) := by decide +kernel
theorem dX3_settle_83 : decode cX3_settle 83 = .ok (.if_icmp .le 11, 3) := by decide +kernel
theorem dX3_settle_86 : decode cX3_settle 86 = .ok (.aload_n 0, 1) := by decide +kernel
theorem dX3_settle_87 : decode cX3_settle 87 = .ok (.aload_n 3, 1) := by decide +kernel
theorem dX3_settle_88 : decode cX3_settle 88 = .ok (.invokevirtual 183, 3) := by decide +kernel
theorem dX3_settle_91 : decode cX3_settle 91 = .ok (.iinc 1 1, 3) := by decide +kernel
theorem dX3_settle_94 : decode cX3_settle 94 = .ok (.iinc 2 1, 3) := by decide +kernel
theorem dX3_settle_97 : decode cX3_settle 97 = .ok (.goto (-93), 3) := by decide +kernel
theorem dX3_settle_100 : decode cX3_settle 100 = .ok (.iload_n 1, 1) := by decide +kernel
theorem dX3_settle_101 : decode cX3_settle 101 = .ok (.ireturn, 1) := by decide +kernel
theorem dX3_giveBack_0 : decode cX3_giveBack 0 = .ok (.aload_n 1, 1) := by decide +kernel
theorem dX3_giveBack_1 : decode cX3_giveBack 1 = .ok (.getfield 235, 3) := by decide +kernel
theorem dX3_giveBack_4 : decode cX3_giveBack 4 = .ok (.aload_n 1, 1) := by decide +kernel
theorem dX3_giveBack_5 : decode cX3_giveBack 5 = .ok (.getfield 238, 3) := by decide +kernel
theorem dX3_giveBack_8 : decode cX3_giveBack 8 = .ok (.isub, 1) := by decide +kernel
theorem dX3_giveBack_9 : decode cX3_giveBack 9 = .ok (.i2l, 1) := by decide +kernel
theorem dX3_giveBack_10 : decode cX3_giveBack 10 = .ok (.aload_n 1, 1) := by decide +kernel
theorem dX3_giveBack_11 : decode cX3_giveBack 11 = .ok (.getfield 241, 3) := by decide +kernel
theorem dX3_giveBack_14 : decode cX3_giveBack 14 = .ok (.i2l, 1) := by decide +kernel
theorem dX3_giveBack_15 : decode cX3_giveBack 15 = .ok (.lmul, 1) := by decide +kernel
theorem dX3_giveBack_16 : decode cX3_giveBack 16 = .ok (.lstore_n 2, 1) := by decide +kernel
theorem dX3_giveBack_17 : decode cX3_giveBack 17 = .ok (.aload_n 0, 1) := by decide +kernel
theorem dX3_giveBack_18 : decode cX3_giveBack 18 = .ok (.dup, 1) := by decide +kernel
theorem dX3_giveBack_19 : decode cX3_giveBack 19 = .ok (.getfield 90, 3) := by decide +kernel
theorem dX3_giveBack_22 : decode cX3_giveBack 22 = .ok (.lload_n 2, 1) := by decide +kernel
theorem dX3_giveBack_23 : decode cX3_giveBack 23 = .ok (.lsub, 1) := by decide +kernel
theorem dX3_giveBack_24 : decode cX3_giveBack 24 = .ok (.putfield 90, 3) := by decide +kernel
theorem dX3_giveBack_27 : decode cX3_giveBack 27 = .ok (.aload_n 0, 1) := by decide +kernel
theorem dX3_giveBack_28 : decode cX3_giveBack 28 = .ok (.getfield 16, 3) := by decide +kernel
theorem dX3_giveBack_31 : decode cX3_giveBack 31 = .ok (.aload_n 1, 1) := by decide +kernel
theorem dX3_giveBack_32 : decode cX3_giveBack 32 = .ok (.getfield 244, 3) := by decide +kernel
theorem dX3_giveBack_35 : decode cX3_giveBack 35 = .ok (.dup2, 1) := by decide +kernel
theorem dX3_giveBack_36 : decode cX3_giveBack 36 = .ok (.laload, 1) := by decide +kernel
theorem dX3_giveBack_37 : decode cX3_giveBack 37 = .ok (.lload_n 2, 1) := by decide +kernel
theorem dX3_giveBack_38 : decode cX3_giveBack 38 = .ok (.ladd, 1) := by decide +kernel
theorem dX3_giveBack_39 : decode cX3_giveBack 39 = .ok (.lastore, 1) := by decide +kernel
theorem dX3_giveBack_40 : decode cX3_giveBack 40 = .ok (.aload_n 1, 1) := by decide +kernel
theorem dX3_giveBack_41 : decode cX3_giveBack 41 = .ok (.aload_n 1, 1) := by decide +kernel
theorem dX3_giveBack_42 : decode cX3_giveBack 42 = .ok (.getfield 235, 3) := by decide +kernel
theorem dX3_giveBack_45 : decode cX3_giveBack 45 = .ok (.putfield 238, 3) := by decide +kernel
theorem dX3_giveBack_48 : decode cX3_giveBack 48 = .ok (.aload_n 1, 1) := by decide +kernel
theorem dX3_giveBack_49 : decode cX3_giveBack 49 = .ok (.iconst 1, 1) := by decide +kernel
theorem dX3_giveBack_50 : decode cX3_giveBack 50 = .ok (.putfield 176, 3) := by decide +kernel
theorem dX3_giveBack_53 : decode cX3_giveBack 53 = .ok (.return_, 1) := by decide +kernel
theorem dX3_account_0 : decode cX3_account 0 = .ok (.iload_n 1, 1) := by decide +kernel
theorem dX3_account_1 : decode cX3_account 1 = .ok (.ifCond .ne 8, 3) := by decide +kernel
theorem dX3_account_4 : decode cX3_account 4 = .ok (.aload_n 0, 1) := by decide +kernel
theorem dX3_account_5 : decode cX3_account 5 = .ok (.invokevirtual 186, 3) := by decide +kernel
theorem dX3_account_8 : decode cX3_account 8 = .ok (.lreturn, 1) := by decide +kernel
theorem dX3_account_9 : decode cX3_account 9 = .ok (.iload_n 1, 1) := by decide +kernel
theorem dX3_account_10 : decode cX3_account 10 = .ok (.iconst 1, 1) := by decide +kernel
theorem dX3_account_11 : decode cX3_account 11 = .ok (.if_icmp .ne 8, 3) := by decide +kernel
theorem dX3_account_14 : decode cX3_account 14 = .ok (.aload_n 0, 1) := by decide +kernel
theorem dX3_account_15 : decode cX3_account 15 = .ok (.getfield 90, 3) := by decide +kernel
theorem dX3_account_18 : decode cX3_account 18 = .ok (.lreturn, 1) := by decide +kernel
theorem dX3_account_19 : decode cX3_account 19 = .ok (.iload_n 1, 1) := by decide +kernel
theorem dX3_account_20 : decode cX3_account 20 = .ok (.iconst 2, 1) := by decide +kernel
theorem dX3_account_21 : decode cX3_account 21 = .ok (.if_icmp .ne 8, 3) := by decide +kernel
theorem dX3_account_24 : decode cX3_account 24 = .ok (.aload_n 0, 1) := by decide +kernel
theorem dX3_account_25 : decode cX3_account 25 = .ok (.getfield 173, 3) := by decide +kernel
theorem dX3_account_28 : decode cX3_account 28 = .ok (.lreturn, 1) := by decide +kernel
theorem dX3_account_29 : decode cX3_account 29 = .ok (.iload_n 1, 1) := by decide +kernel
theorem dX3_account_30 : decode cX3_account 30 = .ok (.bipush 10, 2) := by decide +kernel
theorem dX3_account_32 : decode cX3_account 32 = .ok (.bipush 17, 2) := by decide +kernel
theorem dX3_account_34 : decode cX3_account 34 = .ok (.invokestatic 75, 3) := by decide +kernel
theorem dX3_account_37 : decode cX3_account 37 = .ok (.ifCond .eq 13, 3) := by decide +kernel
theorem dX3_account_40 : decode cX3_account 40 = .ok (.aload_n 0, 1) := by decide +kernel
theorem dX3_account_41 : decode cX3_account 41 = .ok (.getfield 16, 3) := by decide +kernel
theorem dX3_account_44 : decode cX3_account 44 = .ok (.iload_n 1, 1) := by decide +kernel
theorem dX3_account_45 : decode cX3_account 45 = .ok (.bipush 10, 2) := by decide +kernel
theorem dX3_account_47 : decode cX3_account 47 = .ok (.isub, 1) := by decide +kernel
theorem dX3_account_48 : decode cX3_account 48 = .ok (.laload, 1) := by decide +kernel
theorem dX3_account_49 : decode cX3_account 49 = .ok (.lreturn, 1) := by decide +kernel
theorem dX3_account_50 : decode cX3_account 50 = .ok (.ldc2_w 190, 3) := by decide +kernel
theorem dX3_account_53 : decode cX3_account 53 = .ok (.lreturn, 1) := by decide +kernel
theorem dX3_inAllPurses_0 : decode cX3_inAllPurses 0 = .ok (.lconst 0, 1) := by decide +kernel
theorem dX3_inAllPurses_1 : decode cX3_inAllPurses 1 = .ok (.lstore_n 1, 1) := by decide +kernel
theorem dX3_inAllPurses_2 : decode cX3_inAllPurses 2 = .ok (.iconst 0, 1) := by decide +kernel
theorem dX3_inAllPurses_3 : decode cX3_inAllPurses 3 = .ok (.istore_n 3, 1) := by decide +kernel
theorem dX3_inAllPurses_4 : decode cX3_inAllPurses 4 = .ok (.iload_n 3, 1) := by decide +kernel
theorem dX3_inAllPurses_5 : decode cX3_inAllPurses 5 = .ok (.bipush 8, 2) := by decide +kernel
theorem dX3_inAllPurses_7 : decode cX3_inAllPurses 7 = .ok (.if_icmp .ge 18, 3) := by decide +kernel
theorem dX3_inAllPurses_10 : decode cX3_inAllPurses 10 = .ok (.lload_n 1, 1) := by decide +kernel
theorem dX3_inAllPurses_11 : decode cX3_inAllPurses 11 = .ok (.aload_n 0, 1) := by decide +kernel
theorem dX3_inAllPurses_12 : decode cX3_inAllPurses 12 = .ok (.getfield 16, 3) := by decide +kernel
theorem dX3_inAllPurses_15 : decode cX3_inAllPurses 15 = .ok (.iload_n 3, 1) := by decide +kernel
theorem dX3_inAllPurses_16 : decode cX3_inAllPurses 16 = .ok (.laload, 1) := by decide +kernel
theorem dX3_inAllPurses_17 : decode cX3_inAllPurses 17 = .ok (.ladd, 1) := by decide +kernel
theorem dX3_inAllPurses_18 : decode cX3_inAllPurses 18 = .ok (.lstore_n 1, 1) := by decide +kernel
theorem dX3_inAllPurses_19 : decode cX3_inAllPurses 19 = .ok (.iinc 3 1, 3) := by decide +kernel
theorem dX3_inAllPurses_22 : decode cX3_inAllPurses 22 = .ok (.goto (-18), 3) := by decide +kernel
theorem dX3_inAllPurses_25 : decode cX3_inAllPurses 25 = .ok (.lload_n 1, 1) := by decide +kernel
theorem dX3_inAllPurses_26 : decode cX3_inAllPurses 26 = .ok (.lreturn, 1) := by decide +kernel
theorem dX3_spent_0 : decode cX3_spent 0 = .ok (.aload_n 0, 1) := by decide +kernel
theorem dX3_spent_1 : decode cX3_spent 1 = .ok (.iload_n 1, 1) := by decide +kernel
theorem dX3_spent_2 : decode cX3_spent 2 = .ok (.invokevirtual 97, 3) := by decide +kernel
theorem dX3_spent_5 : decode cX3_spent 5 = .ok (.astore_n 3, 1) := by decide +kernel
theorem dX3_spent_6 : decode cX3_spent 6 = .ok (.aload_n 0, 1) := by decide +kernel
theorem dX3_spent_7 : decode cX3_spent 7 = .ok (.iload_n 2, 1) := by decide +kernel
theorem dX3_spent_8 : decode cX3_spent 8 = .ok (.invokevirtual 101, 3) := by decide +kernel
theorem dX3_spent_11 : decode cX3_spent 11 = .ok (.astore 4, 2) := by decide +kernel
theorem dX3_spent_13 : decode cX3_spent 13 = .ok (.aload_n 3, 1) := by decide +kernel
theorem dX3_spent_14 : decode cX3_spent 14 = .ok (.ifnull 21, 3) := by decide +kernel
theorem dX3_spent_17 : decode cX3_spent 17 = .ok (.aload 4, 2) := by decide +kernel
theorem dX3_spent_19 : decode cX3_spent 19 = .ok (.ifnull 16, 3) := by decide +kernel
theorem dX3_spent_22 : decode cX3_spent 22 = .ok (.aload 4, 2) := by decide +kernel
theorem dX3_spent_24 : decode cX3_spent 24 = .ok (.getfield 192, 3) := by decide +kernel
theorem dX3_spent_27 : decode cX3_spent 27 = .ok (.aload_n 3, 1) := by decide +kernel
theorem dX3_spent_28 : decode cX3_spent 28 = .ok (.getfield 94, 3) := by decide +kernel
theorem dX3_spent_31 : decode cX3_spent 31 = .ok (.baload, 1) := by decide +kernel
theorem dX3_spent_32 : decode cX3_spent 32 = .ok (.ifCond .ne 5, 3) := by decide +kernel
theorem dX3_spent_35 : decode cX3_spent 35 = .ok (.iconst (-1), 1) := by decide +kernel
theorem dX3_spent_36 : decode cX3_spent 36 = .ok (.ireturn, 1) := by decide +kernel
theorem dX3_spent_37 : decode cX3_spent 37 = .ok (.aload 4, 2) := by decide +kernel
theorem dX3_spent_39 : decode cX3_spent 39 = .ok (.getfield 124, 3) := by decide +kernel
theorem dX3_spent_42 : decode cX3_spent 42 = .ok (.aload_n 3, 1) := by decide +kernel
theorem dX3_spent_43 : decode cX3_spent 43 = .ok (.getfield 94, 3) := by decide +kernel
theorem dX3_spent_46 : decode cX3_spent 46 = .ok (.iaload, 1) := by decide +kernel
theorem dX3_spent_47 : decode cX3_spent 47 = .ok (.ireturn, 1) := by decide +kernel
theorem dX3_overspent_0 : decode cX3_overspent 0 = .ok (.aload_n 0, 1) := by decide +kernel
theorem dX3_overspent_1 : decode cX3_overspent 1 = .ok (.iload_n 1, 1) := by decide +kernel
theorem dX3_overspent_2 : decode cX3_overspent 2 = .ok (.invokevirtual 97, 3) := by decide +kernel
theorem dX3_overspent_5 : decode cX3_overspent 5 = .ok (.astore_n 2, 1) := by decide +kernel
theorem dX3_overspent_6 : decode cX3_overspent 6 = .ok (.aload_n 2, 1) := by decide +kernel
theorem dX3_overspent_7 : decode cX3_overspent 7 = .ok (.ifnonnull 7, 3) := by decide +kernel
theorem dX3_overspent_10 : decode cX3_overspent 10 = .ok (.iconst (-1), 1) := by decide +kernel
theorem dX3_overspent_11 : decode cX3_overspent 11 = .ok (.goto 7, 3) := by decide +kernel
theorem dX3_overspent_14 : decode cX3_overspent 14 = .ok (.aload_n 2, 1) := by decide +kernel
theorem dX3_overspent_15 : decode cX3_overspent 15 = .ok (.getfield 196, 3) := by decide +kernel
theorem dX3_overspent_18 : decode cX3_overspent 18 = .ok (.ireturn, 1) := by decide +kernel
