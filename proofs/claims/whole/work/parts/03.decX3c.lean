theorem dX3_minutes_0 : decode cX3_minutes 0 = .ok (.aload_n 0, 1) := by decide +kernel
theorem dX3_minutes_1 : decode cX3_minutes 1 = .ok (.iload_n 1, 1) := by decide +kernel
theorem dX3_minutes_2 : decode cX3_minutes 2 = .ok (.invokevirtual 101, 3) := by decide +kernel
theorem dX3_minutes_5 : decode cX3_minutes 5 = .ok (.astore_n 3, 1) := by decide +kernel
theorem dX3_minutes_6 : decode cX3_minutes 6 = .ok (.aload_n 3, 1) := by decide +kernel
theorem dX3_minutes_7 : decode cX3_minutes 7 = .ok (.ifnull 10, 3) := by decide +kernel
theorem dX3_minutes_10 : decode cX3_minutes 10 = .ok (.iload_n 2, 1) := by decide +kernel
theorem dX3_minutes_11 : decode cX3_minutes 11 = .ok (.invokestatic 117, 3) := by decide +kernel
theorem dX3_minutes_14 : decode cX3_minutes 14 = .ok (.ifCond .ne 5, 3) := by decide +kernel
theorem dX3_minutes_17 : decode cX3_minutes 17 = .ok (.iconst (-1), 1) := by decide +kernel
theorem dX3_minutes_18 : decode cX3_minutes 18 = .ok (.ireturn, 1) := by decide +kernel
theorem dX3_minutes_19 : decode cX3_minutes 19 = .ok (.aload_n 3, 1) := by decide +kernel
theorem dX3_minutes_20 : decode cX3_minutes 20 = .ok (.getfield 199, 3) := by decide +kernel
theorem dX3_minutes_23 : decode cX3_minutes 23 = .ok (.iload_n 2, 1) := by decide +kernel
theorem dX3_minutes_24 : decode cX3_minutes 24 = .ok (.iaload, 1) := by decide +kernel
theorem dX3_minutes_25 : decode cX3_minutes 25 = .ok (.ireturn, 1) := by decide +kernel
theorem dX3_count_0 : decode cX3_count 0 = .ok (.iload_n 1, 1) := by decide +kernel
theorem dX3_count_1 : decode cX3_count 1 = .ok (.tableswitch 69 0 5 #[39, 44, 49, 54, 59, 64], 39) := by decide +kernel
theorem dX3_count_40 : decode cX3_count 40 = .ok (.aload_n 0, 1) := by decide +kernel
theorem dX3_count_41 : decode cX3_count 41 = .ok (.getfield 72, 3) := by decide +kernel
theorem dX3_count_44 : decode cX3_count 44 = .ok (.ireturn, 1) := by decide +kernel
theorem dX3_count_45 : decode cX3_count 45 = .ok (.aload_n 0, 1) := by decide +kernel
theorem dX3_count_46 : decode cX3_count 46 = .ok (.invokevirtual 202, 3) := by decide +kernel
theorem dX3_count_49 : decode cX3_count 49 = .ok (.ireturn, 1) := by decide +kernel
theorem dX3_count_50 : decode cX3_count 50 = .ok (.aload_n 0, 1) := by decide +kernel
theorem dX3_count_51 : decode cX3_count 51 = .ok (.invokevirtual 206, 3) := by decide +kernel
theorem dX3_count_54 : decode cX3_count 54 = .ok (.ireturn, 1) := by decide +kernel
theorem dX3_count_55 : decode cX3_count 55 = .ok (.aload_n 0, 1) := by decide +kernel
theorem dX3_count_56 : decode cX3_count 56 = .ok (.invokevirtual 209, 3) := by decide +kernel
theorem dX3_count_59 : decode cX3_count 59 = .ok (.ireturn, 1) := by decide +kernel
theorem dX3_count_60 : decode cX3_count 60 = .ok (.aload_n 0, 1) := by decide +kernel
theorem dX3_count_61 : decode cX3_count 61 = .ok (.getfield 59, 3) := by decide +kernel
theorem dX3_count_64 : decode cX3_count 64 = .ok (.ireturn, 1) := by decide +kernel
theorem dX3_count_65 : decode cX3_count 65 = .ok (.aload_n 0, 1) := by decide +kernel
theorem dX3_count_66 : decode cX3_count 66 = .ok (.getfield 55, 3) := by decide +kernel
theorem dX3_count_69 : decode cX3_count 69 = .ok (.ireturn, 1) := by decide +kernel
theorem dX3_count_70 : decode cX3_count 70 = .ok (.iconst (-1), 1) := by decide +kernel
theorem dX3_count_71 : decode cX3_count 71 = .ok (.ireturn, 1) := by decide +kernel
theorem dX3_onAllLists_0 : decode cX3_onAllLists 0 = .ok (.iconst 0, 1) := by decide +kernel
theorem dX3_onAllLists_1 : decode cX3_onAllLists 1 = .ok (.istore_n 1, 1) := by decide +kernel
theorem dX3_onAllLists_2 : decode cX3_onAllLists 2 = .ok (.iconst 0, 1) := by decide +kernel
theorem dX3_onAllLists_3 : decode cX3_onAllLists 3 = .ok (.istore_n 2, 1) := by decide +kernel
theorem dX3_onAllLists_4 : decode cX3_onAllLists 4 = .ok (.iload_n 2, 1) := by decide +kernel
theorem dX3_onAllLists_5 : decode cX3_onAllLists 5 = .ok (.bipush 8, 2) := by decide +kernel
theorem dX3_onAllLists_7 : decode cX3_onAllLists 7 = .ok (.if_icmp .ge 21, 3) := by decide +kernel
theorem dX3_onAllLists_10 : decode cX3_onAllLists 10 = .ok (.iload_n 1, 1) := by decide +kernel
theorem dX3_onAllLists_11 : decode cX3_onAllLists 11 = .ok (.aload_n 0, 1) := by decide +kernel
theorem dX3_onAllLists_12 : decode cX3_onAllLists 12 = .ok (.getfield 28, 3) := by decide +kernel
theorem dX3_onAllLists_15 : decode cX3_onAllLists 15 = .ok (.iload_n 2, 1) := by decide +kernel
theorem dX3_onAllLists_16 : decode cX3_onAllLists 16 = .ok (.aaload, 1) := by decide +kernel
theorem dX3_onAllLists_17 : decode cX3_onAllLists 17 = .ok (.getfield 151, 3) := by decide +kernel
theorem dX3_onAllLists_20 : decode cX3_onAllLists 20 = .ok (.iadd, 1) := by decide +kernel
theorem dX3_onAllLists_21 : decode cX3_onAllLists 21 = .ok (.istore_n 1, 1) := by decide +kernel
theorem dX3_onAllLists_22 : decode cX3_onAllLists 22 = .ok (.iinc 2 1, 3) := by decide +kernel
theorem dX3_onAllLists_25 : decode cX3_onAllLists 25 = .ok (.goto (-21), 3) := by decide +kernel
theorem dX3_onAllLists_28 : decode cX3_onAllLists 28 = .ok (.iload_n 1, 1) := by decide +kernel
theorem dX3_onAllLists_29 : decode cX3_onAllLists 29 = .ok (.ireturn, 1) := by decide +kernel
theorem dX3_blockedScrolls_0 : decode cX3_blockedScrolls 0 = .ok (.iconst 0, 1) := by decide +kernel
theorem dX3_blockedScrolls_1 : decode cX3_blockedScrolls 1 = .ok (.istore_n 1, 1) := by decide +kernel
theorem dX3_blockedScrolls_2 : decode cX3_blockedScrolls 2 = .ok (.iconst 0, 1) := by decide +kernel
theorem dX3_blockedScrolls_3 : decode cX3_blockedScrolls 3 = .ok (.istore_n 2, 1) := by decide +kernel
theorem dX3_blockedScrolls_4 : decode cX3_blockedScrolls 4 = .ok (.iload_n 2, 1) := by decide +kernel
theorem dX3_blockedScrolls_5 : decode cX3_blockedScrolls 5 = .ok (.aload_n 0, 1) := by decide +kernel
theorem dX3_blockedScrolls_6 : decode cX3_blockedScrolls 6 = .ok (.getfield 72, 3) := by decide +kernel
theorem dX3_blockedScrolls_9 : decode cX3_blockedScrolls 9 = .ok (.if_icmp .ge 29, 3) := by decide +kernel
theorem dX3_blockedScrolls_12 : decode cX3_blockedScrolls 12 = .ok (.iload_n 1, 1) := by decide +kernel
theorem dX3_blockedScrolls_13 : decode cX3_blockedScrolls 13 = .ok (.aload_n 0, 1) := by decide +kernel
theorem dX3_blockedScrolls_14 : decode cX3_blockedScrolls 14 = .ok (.getfield 22, 3) := by decide +kernel
theorem dX3_blockedScrolls_17 : decode cX3_blockedScrolls 17 = .ok (.iload_n 2, 1) := by decide +kernel
theorem dX3_blockedScrolls_18 : decode cX3_blockedScrolls 18 = .ok (.aaload, 1) := by decide +kernel
theorem dX3_blockedScrolls_19 : decode cX3_blockedScrolls 19 = .ok (.getfield 233, 3) := by decide +kernel
theorem dX3_blockedScrolls_22 : decode cX3_blockedScrolls 22 = .ok (.ifCond .eq 7, 3) := by decide +kernel
theorem dX3_blockedScrolls_25 : decode cX3_blockedScrolls 25 = .ok (.iconst 1, 1) := by decide +kernel
theorem dX3_blockedScrolls_26 : decode cX3_blockedScrolls 26 = .ok (.goto 4, 3) := by decide +kernel
theorem dX3_blockedScrolls_29 : decode cX3_blockedScrolls 29 = .ok (.iconst 0, 1) := by decide +kernel
theorem dX3_blockedScrolls_30 : decode cX3_blockedScrolls 30 = .ok (.iadd, 1) := by decide +kernel
theorem dX3_blockedScrolls_31 : decode cX3_blockedScrolls 31 = .ok (.istore_n 1, 1) := by decide +kernel
theorem dX3_blockedScrolls_32 : decode cX3_blockedScrolls 32 = .ok (.iinc 2 1, 3) := by decide +kernel
theorem dX3_blockedScrolls_35 : decode cX3_blockedScrolls 35 = .ok (.goto (-31), 3) := by decide +kernel
theorem dX3_blockedScrolls_38 : decode cX3_blockedScrolls 38 = .ok (.iload_n 1, 1) := by decide +kernel
theorem dX3_blockedScrolls_39 : decode cX3_blockedScrolls 39 = .ok (.ireturn, 1) := by decide +kernel
theorem dX3_closedScrolls_0 : decode cX3_closedScrolls 0 = .ok (.iconst 0, 1) := by decide +kernel
theorem dX3_closedScrolls_1 : decode cX3_closedScrolls 1 = .ok (.istore_n 1, 1) := by decide +kernel
theorem dX3_closedScrolls_2 : decode cX3_closedScrolls 2 = .ok (.iconst 0, 1) := by decide +kernel
theorem dX3_closedScrolls_3 : decode cX3_closedScrolls 3 = .ok (.istore_n 2, 1) := by decide +kernel
theorem dX3_closedScrolls_4 : decode cX3_closedScrolls 4 = .ok (.iload_n 2, 1) := by decide +kernel
theorem dX3_closedScrolls_5 : decode cX3_closedScrolls 5 = .ok (.aload_n 0, 1) := by decide +kernel
theorem dX3_closedScrolls_6 : decode cX3_closedScrolls 6 = .ok (.getfield 72, 3) := by decide +kernel
theorem dX3_closedScrolls_9 : decode cX3_closedScrolls 9 = .ok (.if_icmp .ge 29, 3) := by decide +kernel
theorem dX3_closedScrolls_12 : decode cX3_closedScrolls 12 = .ok (.iload_n 1, 1) := by decide +kernel
theorem dX3_closedScrolls_13 : decode cX3_closedScrolls 13 = .ok (.aload_n 0, 1) := by decide +kernel
theorem dX3_closedScrolls_14 : decode cX3_closedScrolls 14 = .ok (.getfield 22, 3) := by decide +kernel
theorem dX3_closedScrolls_17 : decode cX3_closedScrolls 17 = .ok (.iload_n 2, 1) := by decide +kernel
theorem dX3_closedScrolls_18 : decode cX3_closedScrolls 18 = .ok (.aaload, 1) := by decide +kernel
theorem dX3_closedScrolls_19 : decode cX3_closedScrolls 19 = .ok (.getfield 176, 3) := by decide +kernel
theorem dX3_closedScrolls_22 : decode cX3_closedScrolls 22 = .ok (.ifCond .eq 7, 3) := by decide +kernel
theorem dX3_closedScrolls_25 : decode cX3_closedScrolls 25 = .ok (.iconst 1, 1) := by decide +kernel
theorem dX3_closedScrolls_26 : decode cX3_closedScrolls 26 = .ok (.goto 4, 3) := by decide +kernel
theorem dX3_closedScrolls_29 : decode cX3_closedScrolls 29 = .ok (.iconst 0, 1) := by decide +kernel
theorem dX3_closedScrolls_30 : decode cX3_closedScrolls 30 = .ok (.iadd, 1) := by decide +kernel
theorem dX3_closedScrolls_31 : decode cX3_closedScrolls 31 = .ok (.istore_n 1, 1) := by decide +kernel
theorem dX3_closedScrolls_32 : decode cX3_closedScrolls 32 = .ok (.iinc 2 1, 3) := by decide +kernel
theorem dX3_closedScrolls_35 : decode cX3_closedScrolls 35 = .ok (.goto (-31), 3) := by decide +kernel
theorem dX3_closedScrolls_38 : decode cX3_closedScrolls 38 = .ok (.iload_n 1, 1) := by decide +kernel
theorem dX3_closedScrolls_39 : decode cX3_closedScrolls 39 = .ok (.ireturn, 1) := by decide +kernel
