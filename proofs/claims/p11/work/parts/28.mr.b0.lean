theorem d_Mo_dropped_0 : decode b_Mo_dropped 0 = .ok (.aload_n 0, 1) := by decide +kernel
theorem d_Mo_dropped_1 : decode b_Mo_dropped 1 = .ok (.iconst 0, 1) := by decide +kernel
theorem d_Mo_dropped_2 : decode b_Mo_dropped 2 = .ok (.putfield 39, 3) := by decide +kernel
theorem d_Mo_dropped_5 : decode b_Mo_dropped 5 = .ok (.iload_n 1, 1) := by decide +kernel
theorem d_Mo_dropped_6 : decode b_Mo_dropped 6 = .ok (.ifCond .lt 20, 3) := by decide +kernel
theorem d_Mo_dropped_26 : decode b_Mo_dropped 26 = .ok (.iconst (-1), 1) := by decide +kernel
theorem d_Mo_dropped_27 : decode b_Mo_dropped 27 = .ok (.ireturn, 1) := by decide +kernel
theorem d_Mo_dropped_9 : decode b_Mo_dropped 9 = .ok (.iload_n 1, 1) := by decide +kernel
theorem d_Mo_dropped_10 : decode b_Mo_dropped 10 = .ok (.aload_n 0, 1) := by decide +kernel
theorem d_Mo_dropped_11 : decode b_Mo_dropped 11 = .ok (.getfield 67, 3) := by decide +kernel
theorem d_Mo_dropped_14 : decode b_Mo_dropped 14 = .ok (.if_icmp .ge 12, 3) := by decide +kernel
theorem d_Mo_dropped_17 : decode b_Mo_dropped 17 = .ok (.aload_n 0, 1) := by decide +kernel
theorem d_Mo_dropped_18 : decode b_Mo_dropped 18 = .ok (.getfield 28, 3) := by decide +kernel
theorem d_Mo_dropped_21 : decode b_Mo_dropped 21 = .ok (.iload_n 1, 1) := by decide +kernel
theorem d_Mo_dropped_22 : decode b_Mo_dropped 22 = .ok (.iaload, 1) := by decide +kernel
theorem d_Mo_dropped_23 : decode b_Mo_dropped 23 = .ok (.goto 4, 3) := by decide +kernel
theorem d_Mo_list_0 : decode b_Mo_list 0 = .ok (.aload_n 0, 1) := by decide +kernel
theorem d_Mo_list_1 : decode b_Mo_list 1 = .ok (.iconst 0, 1) := by decide +kernel
theorem d_Mo_list_2 : decode b_Mo_list 2 = .ok (.putfield 39, 3) := by decide +kernel
theorem d_Mo_list_5 : decode b_Mo_list 5 = .ok (.iload_n 1, 1) := by decide +kernel
theorem d_Mo_list_6 : decode b_Mo_list 6 = .ok (.ifCond .lt 20, 3) := by decide +kernel
theorem d_Mo_list_26 : decode b_Mo_list 26 = .ok (.iconst (-1), 1) := by decide +kernel
theorem d_Mo_list_27 : decode b_Mo_list 27 = .ok (.ireturn, 1) := by decide +kernel
theorem d_Mo_list_9 : decode b_Mo_list 9 = .ok (.iload_n 1, 1) := by decide +kernel
theorem d_Mo_list_10 : decode b_Mo_list 10 = .ok (.aload_n 0, 1) := by decide +kernel
theorem d_Mo_list_11 : decode b_Mo_list 11 = .ok (.getfield 53, 3) := by decide +kernel
theorem d_Mo_list_14 : decode b_Mo_list 14 = .ok (.if_icmp .ge 12, 3) := by decide +kernel
theorem d_Mo_list_17 : decode b_Mo_list 17 = .ok (.aload_n 0, 1) := by decide +kernel
theorem d_Mo_list_18 : decode b_Mo_list 18 = .ok (.getfield 13, 3) := by decide +kernel
theorem d_Mo_list_21 : decode b_Mo_list 21 = .ok (.iload_n 1, 1) := by decide +kernel
theorem d_Mo_list_22 : decode b_Mo_list 22 = .ok (.iaload, 1) := by decide +kernel
theorem d_Mo_list_23 : decode b_Mo_list 23 = .ok (.goto 4, 3) := by decide +kernel
theorem d_Mo_reclaim_0 : decode b_Mo_reclaim 0 = .ok (.aload_n 0, 1) := by decide +kernel
theorem d_Mo_reclaim_1 : decode b_Mo_reclaim 1 = .ok (.iconst 0, 1) := by decide +kernel
theorem d_Mo_reclaim_2 : decode b_Mo_reclaim 2 = .ok (.putfield 39, 3) := by decide +kernel
theorem d_Mo_reclaim_5 : decode b_Mo_reclaim 5 = .ok (.iload_n 1, 1) := by decide +kernel
theorem d_Mo_reclaim_6 : decode b_Mo_reclaim 6 = .ok (.invokestatic 70, 3) := by decide +kernel
theorem d_Mo_reclaim_9 : decode b_Mo_reclaim 9 = .ok (.ifCond .eq 12, 3) := by decide +kernel
theorem d_Mo_reclaim_21 : decode b_Mo_reclaim 21 = .ok (.iconst 0, 1) := by decide +kernel
theorem d_Mo_reclaim_22 : decode b_Mo_reclaim 22 = .ok (.ireturn, 1) := by decide +kernel
theorem d_Mo_reclaim_12 : decode b_Mo_reclaim 12 = .ok (.aload_n 0, 1) := by decide +kernel
theorem d_Mo_reclaim_13 : decode b_Mo_reclaim 13 = .ok (.iload_n 1, 1) := by decide +kernel
theorem d_Mo_reclaim_14 : decode b_Mo_reclaim 14 = .ok (.invokevirtual 74, 3) := by decide +kernel
theorem d_Mo_reclaim_17 : decode b_Mo_reclaim 17 = .ok (.iconst 3, 1) := by decide +kernel
theorem d_Mo_reclaim_18 : decode b_Mo_reclaim 18 = .ok (.if_icmp .ge 5, 3) := by decide +kernel
theorem d_Mo_reclaim_23 : decode b_Mo_reclaim 23 = .ok (.aload_n 0, 1) := by decide +kernel
theorem d_Mo_reclaim_24 : decode b_Mo_reclaim 24 = .ok (.iload_n 1, 1) := by decide +kernel
theorem d_Mo_reclaim_25 : decode b_Mo_reclaim 25 = .ok (.aload_n 0, 1) := by decide +kernel
theorem d_Mo_reclaim_26 : decode b_Mo_reclaim 26 = .ok (.iload_n 1, 1) := by decide +kernel
theorem d_Mo_reclaim_27 : decode b_Mo_reclaim 27 = .ok (.invokevirtual 74, 3) := by decide +kernel
theorem d_Mo_reclaim_30 : decode b_Mo_reclaim 30 = .ok (.aload_n 0, 1) := by decide +kernel
theorem d_Mo_reclaim_31 : decode b_Mo_reclaim 31 = .ok (.iload_n 1, 1) := by decide +kernel
theorem d_Mo_reclaim_32 : decode b_Mo_reclaim 32 = .ok (.invokevirtual 42, 3) := by decide +kernel
theorem d_Mo_reclaim_35 : decode b_Mo_reclaim 35 = .ok (.aload_n 0, 1) := by decide +kernel
theorem d_Mo_reclaim_36 : decode b_Mo_reclaim 36 = .ok (.iload_n 1, 1) := by decide +kernel
theorem d_Mo_reclaim_37 : decode b_Mo_reclaim 37 = .ok (.invokevirtual 46, 3) := by decide +kernel
theorem d_Mo_reclaim_40 : decode b_Mo_reclaim 40 = .ok (.iconst 1, 1) := by decide +kernel
theorem d_Mo_reclaim_41 : decode b_Mo_reclaim 41 = .ok (.iadd, 1) := by decide +kernel
theorem d_Mo_reclaim_42 : decode b_Mo_reclaim 42 = .ok (.invokevirtual 49, 3) := by decide +kernel
theorem d_Mo_reclaim_45 : decode b_Mo_reclaim 45 = .ok (.aload_n 0, 1) := by decide +kernel
theorem d_Mo_reclaim_46 : decode b_Mo_reclaim 46 = .ok (.iload_n 1, 1) := by decide +kernel
theorem d_Mo_reclaim_47 : decode b_Mo_reclaim 47 = .ok (.invokevirtual 77, 3) := by decide +kernel
theorem d_Mo_reclaim_50 : decode b_Mo_reclaim 50 = .ok (.iconst 1, 1) := by decide +kernel
theorem d_Mo_reclaim_51 : decode b_Mo_reclaim 51 = .ok (.ireturn, 1) := by decide +kernel
theorem d_Mo_empty_0 : decode b_Mo_empty 0 = .ok (.aload_n 0, 1) := by decide +kernel
theorem d_Mo_empty_1 : decode b_Mo_empty 1 = .ok (.iconst 0, 1) := by decide +kernel
theorem d_Mo_empty_2 : decode b_Mo_empty 2 = .ok (.putfield 39, 3) := by decide +kernel
theorem d_Mo_empty_5 : decode b_Mo_empty 5 = .ok (.aload_n 0, 1) := by decide +kernel
theorem d_Mo_empty_6 : decode b_Mo_empty 6 = .ok (.getfield 64, 3) := by decide +kernel
theorem d_Mo_empty_9 : decode b_Mo_empty 9 = .ok (.ifCond .eq 7, 3) := by decide +kernel
theorem d_Mo_empty_16 : decode b_Mo_empty 16 = .ok (.iconst 0, 1) := by decide +kernel
theorem d_Mo_empty_17 : decode b_Mo_empty 17 = .ok (.istore_n 2, 1) := by decide +kernel
theorem d_Mo_empty_18 : decode b_Mo_empty 18 = .ok (.aload_n 0, 1) := by decide +kernel
theorem d_Mo_empty_19 : decode b_Mo_empty 19 = .ok (.iload_n 1, 1) := by decide +kernel
theorem d_Mo_empty_20 : decode b_Mo_empty 20 = .ok (.putfield 64, 3) := by decide +kernel
theorem d_Mo_empty_23 : decode b_Mo_empty 23 = .ok (.iload_n 2, 1) := by decide +kernel
theorem d_Mo_empty_24 : decode b_Mo_empty 24 = .ok (.ireturn, 1) := by decide +kernel
theorem d_Mo_empty_12 : decode b_Mo_empty 12 = .ok (.iconst 1, 1) := by decide +kernel
theorem d_Mo_empty_13 : decode b_Mo_empty 13 = .ok (.goto 4, 3) := by decide +kernel
theorem d_Mo_version_0 : decode b_Mo_version 0 = .ok (.aload_n 0, 1) := by decide +kernel
theorem d_Mo_version_1 : decode b_Mo_version 1 = .ok (.iconst 0, 1) := by decide +kernel
theorem d_Mo_version_2 : decode b_Mo_version 2 = .ok (.putfield 39, 3) := by decide +kernel
theorem d_Mo_version_5 : decode b_Mo_version 5 = .ok (.iload_n 1, 1) := by decide +kernel
theorem d_Mo_version_6 : decode b_Mo_version 6 = .ok (.invokestatic 70, 3) := by decide +kernel
theorem d_Mo_version_9 : decode b_Mo_version 9 = .ok (.ifCond .eq 19, 3) := by decide +kernel
theorem d_Mo_version_28 : decode b_Mo_version 28 = .ok (.iconst (-1), 1) := by decide +kernel
theorem d_Mo_version_29 : decode b_Mo_version 29 = .ok (.ireturn, 1) := by decide +kernel
theorem d_Mo_version_12 : decode b_Mo_version 12 = .ok (.aload_n 0, 1) := by decide +kernel
theorem d_Mo_version_13 : decode b_Mo_version 13 = .ok (.iload_n 1, 1) := by decide +kernel
theorem d_Mo_version_14 : decode b_Mo_version 14 = .ok (.invokevirtual 74, 3) := by decide +kernel
theorem d_Mo_version_17 : decode b_Mo_version 17 = .ok (.ifCond .eq 11, 3) := by decide +kernel
theorem d_Mo_version_20 : decode b_Mo_version 20 = .ok (.aload_n 0, 1) := by decide +kernel
theorem d_Mo_version_21 : decode b_Mo_version 21 = .ok (.iload_n 1, 1) := by decide +kernel
theorem d_Mo_version_22 : decode b_Mo_version 22 = .ok (.invokevirtual 46, 3) := by decide +kernel
theorem d_Mo_version_25 : decode b_Mo_version 25 = .ok (.goto 4, 3) := by decide +kernel
theorem d_Mo_state_0 : decode b_Mo_state 0 = .ok (.aload_n 0, 1) := by decide +kernel
theorem d_Mo_state_1 : decode b_Mo_state 1 = .ok (.iconst 0, 1) := by decide +kernel
theorem d_Mo_state_2 : decode b_Mo_state 2 = .ok (.putfield 39, 3) := by decide +kernel
theorem d_Mo_state_5 : decode b_Mo_state 5 = .ok (.iload_n 1, 1) := by decide +kernel
theorem d_Mo_state_6 : decode b_Mo_state 6 = .ok (.invokestatic 70, 3) := by decide +kernel
theorem d_Mo_state_9 : decode b_Mo_state 9 = .ok (.ifCond .eq 11, 3) := by decide +kernel
theorem d_Mo_state_20 : decode b_Mo_state 20 = .ok (.iconst (-1), 1) := by decide +kernel
theorem d_Mo_state_21 : decode b_Mo_state 21 = .ok (.ireturn, 1) := by decide +kernel
theorem d_Mo_state_12 : decode b_Mo_state 12 = .ok (.aload_n 0, 1) := by decide +kernel
theorem d_Mo_state_13 : decode b_Mo_state 13 = .ok (.iload_n 1, 1) := by decide +kernel
theorem d_Mo_state_14 : decode b_Mo_state 14 = .ok (.invokevirtual 74, 3) := by decide +kernel
theorem d_Mo_state_17 : decode b_Mo_state 17 = .ok (.goto 4, 3) := by decide +kernel
theorem d_Mo_count_0 : decode b_Mo_count 0 = .ok (.aload_n 0, 1) := by decide +kernel
theorem d_Mo_count_1 : decode b_Mo_count 1 = .ok (.iconst 0, 1) := by decide +kernel
theorem d_Mo_count_2 : decode b_Mo_count 2 = .ok (.putfield 39, 3) := by decide +kernel
theorem d_Mo_count_5 : decode b_Mo_count 5 = .ok (.iconst 0, 1) := by decide +kernel
theorem d_Mo_count_6 : decode b_Mo_count 6 = .ok (.istore_n 2, 1) := by decide +kernel
theorem d_Mo_count_7 : decode b_Mo_count 7 = .ok (.iconst 1, 1) := by decide +kernel
theorem d_Mo_count_8 : decode b_Mo_count 8 = .ok (.istore_n 3, 1) := by decide +kernel
theorem d_Mo_count_9 : decode b_Mo_count 9 = .ok (.iload_n 3, 1) := by decide +kernel
theorem d_Mo_count_10 : decode b_Mo_count 10 = .ok (.sipush 9999, 3) := by decide +kernel
theorem d_Mo_count_13 : decode b_Mo_count 13 = .ok (.if_icmp .gt 66, 3) := by decide +kernel
theorem d_Mo_count_79 : decode b_Mo_count 79 = .ok (.iload_n 1, 1) := by decide +kernel
theorem d_Mo_count_80 : decode b_Mo_count 80 = .ok (.tableswitch 62 0 5 #[40, 45, 45, 47, 52, 57], 40) := by decide +kernel
theorem d_Mo_count_142 : decode b_Mo_count 142 = .ok (.iconst (-1), 1) := by decide +kernel
