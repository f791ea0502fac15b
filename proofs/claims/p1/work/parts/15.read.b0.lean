theorem d_X_dropped_0 : decode b_X_dropped 0 = .ok (.iload_n 1, 1) := by decide +kernel
theorem d_X_dropped_1 : decode b_X_dropped 1 = .ok (.ifCond .lt 20, 3) := by decide +kernel
theorem d_X_dropped_21 : decode b_X_dropped 21 = .ok (.iconst (-1), 1) := by decide +kernel
theorem d_X_dropped_22 : decode b_X_dropped 22 = .ok (.ireturn, 1) := by decide +kernel
theorem d_X_dropped_4 : decode b_X_dropped 4 = .ok (.iload_n 1, 1) := by decide +kernel
theorem d_X_dropped_5 : decode b_X_dropped 5 = .ok (.aload_n 0, 1) := by decide +kernel
theorem d_X_dropped_6 : decode b_X_dropped 6 = .ok (.getfield 138, 3) := by decide +kernel
theorem d_X_dropped_9 : decode b_X_dropped 9 = .ok (.if_icmp .ge 12, 3) := by decide +kernel
theorem d_Row_at_0 : decode b_Row_at 0 = .ok (.iload_n 1, 1) := by decide +kernel
theorem d_Row_at_1 : decode b_Row_at 1 = .ok (.ifCond .lt 20, 3) := by decide +kernel
theorem d_Row_at_21 : decode b_Row_at 21 = .ok (.iconst (-1), 1) := by decide +kernel
theorem d_Row_at_22 : decode b_Row_at 22 = .ok (.ireturn, 1) := by decide +kernel
theorem d_Row_at_4 : decode b_Row_at 4 = .ok (.iload_n 1, 1) := by decide +kernel
theorem d_Row_at_5 : decode b_Row_at 5 = .ok (.aload_n 0, 1) := by decide +kernel
theorem d_Row_at_6 : decode b_Row_at 6 = .ok (.getfield 15, 3) := by decide +kernel
theorem d_Row_at_9 : decode b_Row_at 9 = .ok (.if_icmp .ge 12, 3) := by decide +kernel
theorem d_X_list_0 : decode b_X_list 0 = .ok (.aload_n 0, 1) := by decide +kernel
theorem d_X_list_1 : decode b_X_list 1 = .ok (.getfield 10, 3) := by decide +kernel
theorem d_X_list_4 : decode b_X_list 4 = .ok (.iload_n 1, 1) := by decide +kernel
theorem d_X_list_5 : decode b_X_list 5 = .ok (.invokevirtual 149, 3) := by decide +kernel
theorem d_X_list_8 : decode b_X_list 8 = .ok (.ireturn, 1) := by decide +kernel
theorem d_X_reclaim_0 : decode b_X_reclaim 0 = .ok (.aload_n 0, 1) := by decide +kernel
theorem d_X_reclaim_1 : decode b_X_reclaim 1 = .ok (.iload_n 1, 1) := by decide +kernel
theorem d_X_reclaim_2 : decode b_X_reclaim 2 = .ok (.invokevirtual 60, 3) := by decide +kernel
theorem d_X_reclaim_5 : decode b_X_reclaim 5 = .ok (.astore_n 2, 1) := by decide +kernel
theorem d_X_reclaim_6 : decode b_X_reclaim 6 = .ok (.aload_n 2, 1) := by decide +kernel
theorem d_X_reclaim_7 : decode b_X_reclaim 7 = .ok (.getfield 64, 3) := by decide +kernel
theorem d_X_reclaim_10 : decode b_X_reclaim 10 = .ok (.iconst 3, 1) := by decide +kernel
theorem d_X_reclaim_11 : decode b_X_reclaim 11 = .ok (.if_icmp .eq 13, 3) := by decide +kernel
theorem d_X_reclaim_14 : decode b_X_reclaim 14 = .ok (.aload_n 2, 1) := by decide +kernel
theorem d_X_reclaim_15 : decode b_X_reclaim 15 = .ok (.getfield 64, 3) := by decide +kernel
theorem d_X_reclaim_18 : decode b_X_reclaim 18 = .ok (.iconst 4, 1) := by decide +kernel
theorem d_X_reclaim_19 : decode b_X_reclaim 19 = .ok (.if_icmp .eq 5, 3) := by decide +kernel
theorem d_X_reclaim_22 : decode b_X_reclaim 22 = .ok (.iconst 0, 1) := by decide +kernel
theorem d_X_reclaim_23 : decode b_X_reclaim 23 = .ok (.ireturn, 1) := by decide +kernel
theorem d_X_empty_0 : decode b_X_empty 0 = .ok (.aload_n 0, 1) := by decide +kernel
theorem d_X_empty_1 : decode b_X_empty 1 = .ok (.getfield 155, 3) := by decide +kernel
theorem d_X_empty_4 : decode b_X_empty 4 = .ok (.ifCond .eq 7, 3) := by decide +kernel
theorem d_X_empty_11 : decode b_X_empty 11 = .ok (.iconst 0, 1) := by decide +kernel
theorem d_X_empty_12 : decode b_X_empty 12 = .ok (.istore_n 2, 1) := by decide +kernel
theorem d_X_empty_13 : decode b_X_empty 13 = .ok (.aload_n 0, 1) := by decide +kernel
theorem d_X_empty_14 : decode b_X_empty 14 = .ok (.iload_n 1, 1) := by decide +kernel
theorem d_X_empty_15 : decode b_X_empty 15 = .ok (.putfield 155, 3) := by decide +kernel
theorem d_X_empty_18 : decode b_X_empty 18 = .ok (.iload_n 2, 1) := by decide +kernel
theorem d_X_empty_19 : decode b_X_empty 19 = .ok (.ireturn, 1) := by decide +kernel
theorem d_X_version_0 : decode b_X_version 0 = .ok (.aload_n 0, 1) := by decide +kernel
theorem d_X_version_1 : decode b_X_version 1 = .ok (.iload_n 1, 1) := by decide +kernel
theorem d_X_version_2 : decode b_X_version 2 = .ok (.invokevirtual 60, 3) := by decide +kernel
theorem d_X_version_5 : decode b_X_version 5 = .ok (.astore_n 2, 1) := by decide +kernel
theorem d_X_version_6 : decode b_X_version 6 = .ok (.aload_n 2, 1) := by decide +kernel
theorem d_X_version_7 : decode b_X_version 7 = .ok (.getfield 64, 3) := by decide +kernel
theorem d_X_version_10 : decode b_X_version 10 = .ok (.ifCond .ne 7, 3) := by decide +kernel
theorem d_X_version_13 : decode b_X_version 13 = .ok (.iconst (-1), 1) := by decide +kernel
theorem d_X_version_14 : decode b_X_version 14 = .ok (.goto 7, 3) := by decide +kernel
theorem d_X_version_21 : decode b_X_version 21 = .ok (.ireturn, 1) := by decide +kernel
theorem d_X_state_0 : decode b_X_state 0 = .ok (.iload_n 1, 1) := by decide +kernel
theorem d_X_state_1 : decode b_X_state 1 = .ok (.invokestatic 56, 3) := by decide +kernel
theorem d_X_state_4 : decode b_X_state 4 = .ok (.ifCond .eq 14, 3) := by decide +kernel
theorem d_X_state_18 : decode b_X_state 18 = .ok (.iconst (-1), 1) := by decide +kernel
theorem d_X_state_19 : decode b_X_state 19 = .ok (.ireturn, 1) := by decide +kernel
theorem d_X_state_7 : decode b_X_state 7 = .ok (.aload_n 0, 1) := by decide +kernel
theorem d_X_state_8 : decode b_X_state 8 = .ok (.iload_n 1, 1) := by decide +kernel
theorem d_X_state_9 : decode b_X_state 9 = .ok (.invokevirtual 60, 3) := by decide +kernel
theorem d_X_state_12 : decode b_X_state 12 = .ok (.getfield 64, 3) := by decide +kernel
theorem d_X_state_15 : decode b_X_state 15 = .ok (.goto 4, 3) := by decide +kernel
theorem d_X_count_0 : decode b_X_count 0 = .ok (.iload_n 1, 1) := by decide +kernel
theorem d_X_count_1 : decode b_X_count 1 = .ok (.tableswitch 83 0 5 #[39, 47, 59, 65, 73, 78], 39) := by decide +kernel
theorem d_X_count_84 : decode b_X_count 84 = .ok (.iconst (-1), 1) := by decide +kernel
theorem d_X_count_85 : decode b_X_count 85 = .ok (.ireturn, 1) := by decide +kernel
theorem d_X_count_40 : decode b_X_count 40 = .ok (.aload_n 0, 1) := by decide +kernel
theorem d_X_count_41 : decode b_X_count 41 = .ok (.getfield 10, 3) := by decide +kernel
theorem d_X_count_44 : decode b_X_count 44 = .ok (.getfield 81, 3) := by decide +kernel
theorem d_X_count_47 : decode b_X_count 47 = .ok (.ireturn, 1) := by decide +kernel
theorem d_X_count_48 : decode b_X_count 48 = .ok (.aload_n 0, 1) := by decide +kernel
theorem d_X_count_49 : decode b_X_count 49 = .ok (.iconst 2, 1) := by decide +kernel
theorem d_X_count_50 : decode b_X_count 50 = .ok (.invokevirtual 158, 3) := by decide +kernel
theorem d_X_count_53 : decode b_X_count 53 = .ok (.aload_n 0, 1) := by decide +kernel
theorem d_X_count_54 : decode b_X_count 54 = .ok (.iconst 3, 1) := by decide +kernel
theorem d_X_count_55 : decode b_X_count 55 = .ok (.invokevirtual 158, 3) := by decide +kernel
theorem d_X_count_58 : decode b_X_count 58 = .ok (.iadd, 1) := by decide +kernel
theorem d_X_count_59 : decode b_X_count 59 = .ok (.ireturn, 1) := by decide +kernel
theorem d_X_count_60 : decode b_X_count 60 = .ok (.aload_n 0, 1) := by decide +kernel
theorem d_X_count_61 : decode b_X_count 61 = .ok (.iconst 4, 1) := by decide +kernel
theorem d_X_count_62 : decode b_X_count 62 = .ok (.invokevirtual 158, 3) := by decide +kernel
theorem d_X_count_65 : decode b_X_count 65 = .ok (.ireturn, 1) := by decide +kernel
theorem d_X_count_66 : decode b_X_count 66 = .ok (.aload_n 0, 1) := by decide +kernel
theorem d_X_count_67 : decode b_X_count 67 = .ok (.getfield 19, 3) := by decide +kernel
theorem d_X_count_70 : decode b_X_count 70 = .ok (.invokevirtual 84, 3) := by decide +kernel
theorem d_X_count_73 : decode b_X_count 73 = .ok (.ireturn, 1) := by decide +kernel
theorem d_X_count_74 : decode b_X_count 74 = .ok (.aload_n 0, 1) := by decide +kernel
theorem d_X_count_75 : decode b_X_count 75 = .ok (.invokevirtual 161, 3) := by decide +kernel
theorem d_X_count_78 : decode b_X_count 78 = .ok (.ireturn, 1) := by decide +kernel
theorem d_X_count_79 : decode b_X_count 79 = .ok (.aload_n 0, 1) := by decide +kernel
theorem d_X_count_80 : decode b_X_count 80 = .ok (.getfield 138, 3) := by decide +kernel
theorem d_X_count_83 : decode b_X_count 83 = .ok (.ireturn, 1) := by decide +kernel
