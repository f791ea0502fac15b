theorem d_X_jobThatMakes_2 : decode b_X_jobThatMakes 2 = .ok (.iload_n 1, 1) := by decide +kernel
theorem d_X_jobThatMakes_3 : decode b_X_jobThatMakes 3 = .ok (.aload_n 0, 1) := by decide +kernel
theorem d_X_jobThatMakes_4 : decode b_X_jobThatMakes 4 = .ok (.getfield 23, 3) := by decide +kernel
theorem d_X_jobThatMakes_7 : decode b_X_jobThatMakes 7 = .ok (.invokevirtual 84, 3) := by decide +kernel
theorem d_X_jobThatMakes_10 : decode b_X_jobThatMakes 10 = .ok (.if_icmp .ge 34, 3) := by decide +kernel
theorem d_X_jobThatMakes_44 : decode b_X_jobThatMakes 44 = .ok (.iconst 0, 1) := by decide +kernel
theorem d_X_jobThatMakes_45 : decode b_X_jobThatMakes 45 = .ok (.ireturn, 1) := by decide +kernel
theorem d_X_jobThatMakes_13 : decode b_X_jobThatMakes 13 = .ok (.aload_n 0, 1) := by decide +kernel
theorem d_X_jobThatMakes_14 : decode b_X_jobThatMakes 14 = .ok (.getfield 23, 3) := by decide +kernel
theorem d_X_jobThatMakes_17 : decode b_X_jobThatMakes 17 = .ok (.iload_n 1, 1) := by decide +kernel
theorem d_X_jobThatMakes_18 : decode b_X_jobThatMakes 18 = .ok (.invokevirtual 141, 3) := by decide +kernel
theorem d_X_jobThatMakes_21 : decode b_X_jobThatMakes 21 = .ok (.checkcast 26, 3) := by decide +kernel
theorem d_X_jobThatMakes_24 : decode b_X_jobThatMakes 24 = .ok (.astore_n 2, 1) := by decide +kernel
theorem d_X_jobThatMakes_25 : decode b_X_jobThatMakes 25 = .ok (.aload_n 2, 1) := by decide +kernel
theorem d_X_jobThatMakes_26 : decode b_X_jobThatMakes 26 = .ok (.getfield 64, 3) := by decide +kernel
theorem d_X_jobThatMakes_29 : decode b_X_jobThatMakes 29 = .ok (.iconst 2, 1) := by decide +kernel
theorem d_X_jobThatMakes_30 : decode b_X_jobThatMakes 30 = .ok (.if_icmp .ne 8, 3) := by decide +kernel
theorem d_X_jobThatMakes_38 : decode b_X_jobThatMakes 38 = .ok (.iinc 1 1, 3) := by decide +kernel
theorem d_X_jobThatMakes_41 : decode b_X_jobThatMakes 41 = .ok (.goto (-39), 3) := by decide +kernel
theorem d_X_jobThatMakes_33 : decode b_X_jobThatMakes 33 = .ok (.aload_n 2, 1) := by decide +kernel
theorem d_X_jobThatMakes_34 : decode b_X_jobThatMakes 34 = .ok (.getfield 129, 3) := by decide +kernel
theorem d_X_jobThatMakes_37 : decode b_X_jobThatMakes 37 = .ok (.ireturn, 1) := by decide +kernel
theorem d_X_anotherMakes_0 : decode b_X_anotherMakes 0 = .ok (.aload_n 0, 1) := by decide +kernel
theorem d_X_anotherMakes_1 : decode b_X_anotherMakes 1 = .ok (.invokevirtual 161, 3) := by decide +kernel
theorem d_X_anotherMakes_4 : decode b_X_anotherMakes 4 = .ok (.istore_n 2, 1) := by decide +kernel
theorem d_X_anotherMakes_5 : decode b_X_anotherMakes 5 = .ok (.iload_n 2, 1) := by decide +kernel
theorem d_X_anotherMakes_6 : decode b_X_anotherMakes 6 = .ok (.ifCond .eq 12, 3) := by decide +kernel
theorem d_X_anotherMakes_18 : decode b_X_anotherMakes 18 = .ok (.iconst 0, 1) := by decide +kernel
theorem d_X_anotherMakes_19 : decode b_X_anotherMakes 19 = .ok (.ireturn, 1) := by decide +kernel
theorem d_X_anotherMakes_9 : decode b_X_anotherMakes 9 = .ok (.iload_n 2, 1) := by decide +kernel
theorem d_X_anotherMakes_10 : decode b_X_anotherMakes 10 = .ok (.iload_n 1, 1) := by decide +kernel
theorem d_X_anotherMakes_11 : decode b_X_anotherMakes 11 = .ok (.if_icmp .eq 7, 3) := by decide +kernel
theorem d_X_anotherMakes_14 : decode b_X_anotherMakes 14 = .ok (.iconst 1, 1) := by decide +kernel
theorem d_X_anotherMakes_15 : decode b_X_anotherMakes 15 = .ok (.goto 4, 3) := by decide +kernel
theorem d_Row_at_0 : decode b_Row_at 0 = .ok (.iload_n 1, 1) := by decide +kernel
theorem d_Row_at_1 : decode b_Row_at 1 = .ok (.ifCond .lt 20, 3) := by decide +kernel
theorem d_Row_at_21 : decode b_Row_at 21 = .ok (.iconst (-1), 1) := by decide +kernel
theorem d_Row_at_22 : decode b_Row_at 22 = .ok (.ireturn, 1) := by decide +kernel
theorem d_Row_at_4 : decode b_Row_at 4 = .ok (.iload_n 1, 1) := by decide +kernel
theorem d_Row_at_5 : decode b_Row_at 5 = .ok (.aload_n 0, 1) := by decide +kernel
theorem d_Row_at_6 : decode b_Row_at 6 = .ok (.getfield 15, 3) := by decide +kernel
theorem d_Row_at_9 : decode b_Row_at 9 = .ok (.if_icmp .ge 12, 3) := by decide +kernel
theorem d_Row_at_12 : decode b_Row_at 12 = .ok (.aload_n 0, 1) := by decide +kernel
theorem d_Row_at_13 : decode b_Row_at 13 = .ok (.getfield 9, 3) := by decide +kernel
theorem d_Row_at_16 : decode b_Row_at 16 = .ok (.iload_n 1, 1) := by decide +kernel
theorem d_Row_at_17 : decode b_Row_at 17 = .ok (.iaload, 1) := by decide +kernel
theorem d_Row_at_18 : decode b_Row_at 18 = .ok (.goto 4, 3) := by decide +kernel
theorem d_X_list_0 : decode b_X_list 0 = .ok (.aload_n 0, 1) := by decide +kernel
theorem d_X_list_1 : decode b_X_list 1 = .ok (.getfield 10, 3) := by decide +kernel
theorem d_X_list_4 : decode b_X_list 4 = .ok (.iload_n 1, 1) := by decide +kernel
theorem d_X_list_5 : decode b_X_list 5 = .ok (.invokevirtual 149, 3) := by decide +kernel
theorem d_X_list_8 : decode b_X_list 8 = .ok (.ireturn, 1) := by decide +kernel
theorem d_X_dropped_0 : decode b_X_dropped 0 = .ok (.iload_n 1, 1) := by decide +kernel
theorem d_X_dropped_1 : decode b_X_dropped 1 = .ok (.ifCond .lt 20, 3) := by decide +kernel
theorem d_X_dropped_21 : decode b_X_dropped 21 = .ok (.iconst (-1), 1) := by decide +kernel
theorem d_X_dropped_22 : decode b_X_dropped 22 = .ok (.ireturn, 1) := by decide +kernel
theorem d_X_dropped_4 : decode b_X_dropped 4 = .ok (.iload_n 1, 1) := by decide +kernel
theorem d_X_dropped_5 : decode b_X_dropped 5 = .ok (.aload_n 0, 1) := by decide +kernel
theorem d_X_dropped_6 : decode b_X_dropped 6 = .ok (.getfield 138, 3) := by decide +kernel
theorem d_X_dropped_9 : decode b_X_dropped 9 = .ok (.if_icmp .ge 12, 3) := by decide +kernel
theorem d_X_dropped_12 : decode b_X_dropped 12 = .ok (.aload_n 0, 1) := by decide +kernel
theorem d_X_dropped_13 : decode b_X_dropped 13 = .ok (.getfield 35, 3) := by decide +kernel
theorem d_X_dropped_16 : decode b_X_dropped 16 = .ok (.iload_n 1, 1) := by decide +kernel
theorem d_X_dropped_17 : decode b_X_dropped 17 = .ok (.iaload, 1) := by decide +kernel
theorem d_X_dropped_18 : decode b_X_dropped 18 = .ok (.goto 4, 3) := by decide +kernel
theorem d_X_version_0 : decode b_X_version 0 = .ok (.aload_n 0, 1) := by decide +kernel
theorem d_X_version_1 : decode b_X_version 1 = .ok (.iload_n 1, 1) := by decide +kernel
theorem d_X_version_2 : decode b_X_version 2 = .ok (.invokevirtual 60, 3) := by decide +kernel
theorem d_X_version_5 : decode b_X_version 5 = .ok (.astore_n 2, 1) := by decide +kernel
theorem d_X_version_6 : decode b_X_version 6 = .ok (.aload_n 2, 1) := by decide +kernel
theorem d_X_version_7 : decode b_X_version 7 = .ok (.getfield 64, 3) := by decide +kernel
theorem d_X_version_10 : decode b_X_version 10 = .ok (.ifCond .ne 7, 3) := by decide +kernel
theorem d_X_version_17 : decode b_X_version 17 = .ok (.aload_n 2, 1) := by decide +kernel
theorem d_X_version_18 : decode b_X_version 18 = .ok (.getfield 152, 3) := by decide +kernel
theorem d_X_version_21 : decode b_X_version 21 = .ok (.ireturn, 1) := by decide +kernel
theorem d_X_version_13 : decode b_X_version 13 = .ok (.iconst (-1), 1) := by decide +kernel
theorem d_X_version_14 : decode b_X_version 14 = .ok (.goto 7, 3) := by decide +kernel
theorem d_X_state_0 : decode b_X_state 0 = .ok (.iload_n 1, 1) := by decide +kernel
theorem d_X_state_1 : decode b_X_state 1 = .ok (.invokestatic 56, 3) := by decide +kernel
theorem d_X_state_4 : decode b_X_state 4 = .ok (.ifCond .eq 14, 3) := by decide +kernel
theorem d_X_state_18 : decode b_X_state 18 = .ok (.iconst (-1), 1) := by decide +kernel
theorem d_X_state_19 : decode b_X_state 19 = .ok (.ireturn, 1) := by decide +kernel
theorem d_X_state_7 : decode b_X_state 7 = .ok (.aload_n 0, 1) := by decide +kernel
theorem d_X_state_8 : decode b_X_state 8 = .ok (.iload_n 1, 1) := by decide +kernel
theorem d_X_state_9 : decode b_X_state 9 = .ok (.invokevirtual 60, 3) := by decide +kernel
theorem d_X_state_12 : decode b_X_state 12 = .ok (.getfield 64, 3) := by decide +kernel
theorem d_X_state_15 : decode b_X_state 15 = .ok (.goto 4, 3) := by decide +kernel
theorem d_X_count_0 : decode b_X_count 0 = .ok (.iload_n 1, 1) := by decide +kernel
theorem d_X_count_1 : decode b_X_count 1 = .ok (.tableswitch 83 0 5 #[39, 47, 59, 65, 73, 78], 39) := by decide +kernel
theorem d_X_count_84 : decode b_X_count 84 = .ok (.iconst (-1), 1) := by decide +kernel
theorem d_X_count_85 : decode b_X_count 85 = .ok (.ireturn, 1) := by decide +kernel
theorem d_X_count_40 : decode b_X_count 40 = .ok (.aload_n 0, 1) := by decide +kernel
theorem d_X_count_41 : decode b_X_count 41 = .ok (.getfield 10, 3) := by decide +kernel
theorem d_X_count_44 : decode b_X_count 44 = .ok (.getfield 81, 3) := by decide +kernel
theorem d_X_count_47 : decode b_X_count 47 = .ok (.ireturn, 1) := by decide +kernel
theorem d_X_count_48 : decode b_X_count 48 = .ok (.aload_n 0, 1) := by decide +kernel
theorem d_X_count_49 : decode b_X_count 49 = .ok (.iconst 2, 1) := by decide +kernel
theorem d_X_count_50 : decode b_X_count 50 = .ok (.invokevirtual 158, 3) := by decide +kernel
theorem d_X_count_53 : decode b_X_count 53 = .ok (.aload_n 0, 1) := by decide +kernel
theorem d_X_count_54 : decode b_X_count 54 = .ok (.iconst 3, 1) := by decide +kernel
theorem d_X_count_55 : decode b_X_count 55 = .ok (.invokevirtual 158, 3) := by decide +kernel
theorem d_X_count_58 : decode b_X_count 58 = .ok (.iadd, 1) := by decide +kernel
theorem d_X_count_59 : decode b_X_count 59 = .ok (.ireturn, 1) := by decide +kernel
theorem d_X_count_60 : decode b_X_count 60 = .ok (.aload_n 0, 1) := by decide +kernel
theorem d_X_count_61 : decode b_X_count 61 = .ok (.iconst 4, 1) := by decide +kernel
theorem d_X_count_62 : decode b_X_count 62 = .ok (.invokevirtual 158, 3) := by decide +kernel
theorem d_X_count_65 : decode b_X_count 65 = .ok (.ireturn, 1) := by decide +kernel
theorem d_X_count_66 : decode b_X_count 66 = .ok (.aload_n 0, 1) := by decide +kernel
theorem d_X_count_67 : decode b_X_count 67 = .ok (.getfield 19, 3) := by decide +kernel
theorem d_X_count_70 : decode b_X_count 70 = .ok (.invokevirtual 84, 3) := by decide +kernel
theorem d_X_count_73 : decode b_X_count 73 = .ok (.ireturn, 1) := by decide +kernel
theorem d_X_count_74 : decode b_X_count 74 = .ok (.aload_n 0, 1) := by decide +kernel
theorem d_X_count_75 : decode b_X_count 75 = .ok (.invokevirtual 161, 3) := by decide +kernel
theorem d_X_count_78 : decode b_X_count 78 = .ok (.ireturn, 1) := by decide +kernel
theorem d_X_count_79 : decode b_X_count 79 = .ok (.aload_n 0, 1) := by decide +kernel
theorem d_X_count_80 : decode b_X_count 80 = .ok (.getfield 138, 3) := by decide +kernel
theorem d_X_count_83 : decode b_X_count 83 = .ok (.ireturn, 1) := by decide +kernel
