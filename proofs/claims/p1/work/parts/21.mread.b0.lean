theorem d_Mo_isJob_0 : decode b_Mo_isJob 0 = .ok (.iload_n 1, 1) := by decide +kernel
theorem d_Mo_isJob_1 : decode b_Mo_isJob 1 = .ok (.ifCond .le 15, 3) := by decide +kernel
theorem d_Mo_isJob_16 : decode b_Mo_isJob 16 = .ok (.iconst 0, 1) := by decide +kernel
theorem d_Mo_isJob_17 : decode b_Mo_isJob 17 = .ok (.ireturn, 1) := by decide +kernel
theorem d_Mo_isJob_4 : decode b_Mo_isJob 4 = .ok (.iload_n 1, 1) := by decide +kernel
theorem d_Mo_isJob_5 : decode b_Mo_isJob 5 = .ok (.aload_n 0, 1) := by decide +kernel
theorem d_Mo_isJob_6 : decode b_Mo_isJob 6 = .ok (.getfield 81, 3) := by decide +kernel
theorem d_Mo_isJob_9 : decode b_Mo_isJob 9 = .ok (.if_icmp .gt 7, 3) := by decide +kernel
theorem d_Mo_job_0 : decode b_Mo_job 0 = .ok (.aload_n 0, 1) := by decide +kernel
theorem d_Mo_job_1 : decode b_Mo_job 1 = .ok (.iconst 0, 1) := by decide +kernel
theorem d_Mo_job_2 : decode b_Mo_job 2 = .ok (.putfield 39, 3) := by decide +kernel
theorem d_Mo_job_5 : decode b_Mo_job 5 = .ok (.aload_n 0, 1) := by decide +kernel
theorem d_Mo_job_6 : decode b_Mo_job 6 = .ok (.getfield 81, 3) := by decide +kernel
theorem d_Mo_job_9 : decode b_Mo_job 9 = .ok (.bipush 40, 2) := by decide +kernel
theorem d_Mo_job_11 : decode b_Mo_job 11 = .ok (.if_icmp .ne 5, 3) := by decide +kernel
theorem d_Mo_job_16 : decode b_Mo_job 16 = .ok (.aload_n 0, 1) := by decide +kernel
theorem d_Mo_job_17 : decode b_Mo_job 17 = .ok (.dup, 1) := by decide +kernel
theorem d_Mo_job_18 : decode b_Mo_job 18 = .ok (.getfield 81, 3) := by decide +kernel
theorem d_Mo_job_21 : decode b_Mo_job 21 = .ok (.iconst 1, 1) := by decide +kernel
theorem d_Mo_job_22 : decode b_Mo_job 22 = .ok (.iadd, 1) := by decide +kernel
theorem d_Mo_job_23 : decode b_Mo_job 23 = .ok (.putfield 81, 3) := by decide +kernel
theorem d_Mo_job_26 : decode b_Mo_job 26 = .ok (.aload_n 0, 1) := by decide +kernel
theorem d_Mo_job_27 : decode b_Mo_job 27 = .ok (.getfield 19, 3) := by decide +kernel
theorem d_Mo_job_30 : decode b_Mo_job 30 = .ok (.aload_n 0, 1) := by decide +kernel
theorem d_Mo_job_31 : decode b_Mo_job 31 = .ok (.getfield 81, 3) := by decide +kernel
theorem d_Mo_job_34 : decode b_Mo_job 34 = .ok (.aload_n 0, 1) := by decide +kernel
theorem d_Mo_job_35 : decode b_Mo_job 35 = .ok (.getfield 53, 3) := by decide +kernel
theorem d_Mo_job_38 : decode b_Mo_job 38 = .ok (.iastore, 1) := by decide +kernel
theorem d_Mo_job_39 : decode b_Mo_job 39 = .ok (.iconst 0, 1) := by decide +kernel
theorem d_Mo_job_40 : decode b_Mo_job 40 = .ok (.istore_n 1, 1) := by decide +kernel
theorem d_Mo_job_41 : decode b_Mo_job 41 = .ok (.iload_n 1, 1) := by decide +kernel
theorem d_Mo_job_42 : decode b_Mo_job 42 = .ok (.aload_n 0, 1) := by decide +kernel
theorem d_Mo_job_43 : decode b_Mo_job 43 = .ok (.getfield 53, 3) := by decide +kernel
theorem d_Mo_job_46 : decode b_Mo_job 46 = .ok (.if_icmp .ge 32, 3) := by decide +kernel
theorem d_Mo_job_78 : decode b_Mo_job 78 = .ok (.aload_n 0, 1) := by decide +kernel
theorem d_Mo_job_79 : decode b_Mo_job 79 = .ok (.getfield 81, 3) := by decide +kernel
theorem d_Mo_job_82 : decode b_Mo_job 82 = .ok (.ireturn, 1) := by decide +kernel
theorem d_Mo_fails_0 : decode b_Mo_fails 0 = .ok (.aload_n 0, 1) := by decide +kernel
theorem d_Mo_fails_1 : decode b_Mo_fails 1 = .ok (.iload_n 1, 1) := by decide +kernel
theorem d_Mo_fails_2 : decode b_Mo_fails 2 = .ok (.ifCond .eq 7, 3) := by decide +kernel
theorem d_Mo_fails_5 : decode b_Mo_fails 5 = .ok (.iconst 1, 1) := by decide +kernel
theorem d_Mo_fails_6 : decode b_Mo_fails 6 = .ok (.goto 4, 3) := by decide +kernel
theorem d_Mo_fails_10 : decode b_Mo_fails 10 = .ok (.putfield 39, 3) := by decide +kernel
theorem d_Mo_fails_13 : decode b_Mo_fails 13 = .ok (.iload_n 1, 1) := by decide +kernel
theorem d_Mo_fails_14 : decode b_Mo_fails 14 = .ok (.ireturn, 1) := by decide +kernel
theorem d_Mo_relative_0 : decode b_Mo_relative 0 = .ok (.aload_n 0, 1) := by decide +kernel
theorem d_Mo_relative_1 : decode b_Mo_relative 1 = .ok (.aload_n 0, 1) := by decide +kernel
theorem d_Mo_relative_2 : decode b_Mo_relative 2 = .ok (.iload_n 1, 1) := by decide +kernel
theorem d_Mo_relative_3 : decode b_Mo_relative 3 = .ok (.invokevirtual 84, 3) := by decide +kernel
theorem d_Mo_relative_6 : decode b_Mo_relative 6 = .ok (.ifCond .eq 9, 3) := by decide +kernel
theorem d_Mo_relative_15 : decode b_Mo_relative 15 = .ok (.iconst 1, 1) := by decide +kernel
theorem d_Mo_relative_16 : decode b_Mo_relative 16 = .ok (.goto 4, 3) := by decide +kernel
theorem d_Mo_relative_20 : decode b_Mo_relative 20 = .ok (.invokevirtual 87, 3) := by decide +kernel
theorem d_Mo_relative_23 : decode b_Mo_relative 23 = .ok (.ifCond .eq 5, 3) := by decide +kernel
theorem d_Mo_relative_26 : decode b_Mo_relative 26 = .ok (.iconst 0, 1) := by decide +kernel
theorem d_Mo_relative_27 : decode b_Mo_relative 27 = .ok (.ireturn, 1) := by decide +kernel
theorem d_Mo_make_0 : decode b_Mo_make 0 = .ok (.aload_n 0, 1) := by decide +kernel
theorem d_Mo_make_1 : decode b_Mo_make 1 = .ok (.aload_n 0, 1) := by decide +kernel
theorem d_Mo_make_2 : decode b_Mo_make 2 = .ok (.iload_n 1, 1) := by decide +kernel
theorem d_Mo_make_3 : decode b_Mo_make 3 = .ok (.invokevirtual 84, 3) := by decide +kernel
theorem d_Mo_make_6 : decode b_Mo_make 6 = .ok (.ifCond .eq 14, 3) := by decide +kernel
theorem d_Mo_make_20 : decode b_Mo_make 20 = .ok (.iconst 1, 1) := by decide +kernel
theorem d_Mo_make_21 : decode b_Mo_make 21 = .ok (.goto 4, 3) := by decide +kernel
theorem d_Mo_make_25 : decode b_Mo_make 25 = .ok (.invokevirtual 87, 3) := by decide +kernel
theorem d_Mo_make_28 : decode b_Mo_make 28 = .ok (.ifCond .eq 5, 3) := by decide +kernel
theorem d_Mo_make_31 : decode b_Mo_make 31 = .ok (.iconst 0, 1) := by decide +kernel
theorem d_Mo_make_32 : decode b_Mo_make 32 = .ok (.ireturn, 1) := by decide +kernel
theorem d_Mo_end_0 : decode b_Mo_end 0 = .ok (.aload_n 0, 1) := by decide +kernel
theorem d_Mo_end_1 : decode b_Mo_end 1 = .ok (.aload_n 0, 1) := by decide +kernel
theorem d_Mo_end_2 : decode b_Mo_end 2 = .ok (.iload_n 1, 1) := by decide +kernel
theorem d_Mo_end_3 : decode b_Mo_end 3 = .ok (.invokevirtual 84, 3) := by decide +kernel
theorem d_Mo_end_6 : decode b_Mo_end 6 = .ok (.ifCond .ne 7, 3) := by decide +kernel
theorem d_Mo_end_9 : decode b_Mo_end 9 = .ok (.iconst 1, 1) := by decide +kernel
theorem d_Mo_end_10 : decode b_Mo_end 10 = .ok (.goto 4, 3) := by decide +kernel
theorem d_Mo_end_14 : decode b_Mo_end 14 = .ok (.invokevirtual 87, 3) := by decide +kernel
theorem d_Mo_end_17 : decode b_Mo_end 17 = .ok (.ifCond .eq 5, 3) := by decide +kernel
theorem d_Mo_end_20 : decode b_Mo_end 20 = .ok (.iconst 0, 1) := by decide +kernel
theorem d_Mo_end_21 : decode b_Mo_end 21 = .ok (.ireturn, 1) := by decide +kernel
theorem d_Mo_restart_0 : decode b_Mo_restart 0 = .ok (.aload_n 0, 1) := by decide +kernel
theorem d_Mo_restart_1 : decode b_Mo_restart 1 = .ok (.aload_n 0, 1) := by decide +kernel
theorem d_Mo_restart_2 : decode b_Mo_restart 2 = .ok (.iload_n 1, 1) := by decide +kernel
theorem d_Mo_restart_3 : decode b_Mo_restart 3 = .ok (.invokevirtual 84, 3) := by decide +kernel
theorem d_Mo_restart_6 : decode b_Mo_restart 6 = .ok (.ifCond .ne 7, 3) := by decide +kernel
theorem d_Mo_restart_9 : decode b_Mo_restart 9 = .ok (.iconst 1, 1) := by decide +kernel
theorem d_Mo_restart_10 : decode b_Mo_restart 10 = .ok (.goto 4, 3) := by decide +kernel
theorem d_Mo_restart_14 : decode b_Mo_restart 14 = .ok (.invokevirtual 87, 3) := by decide +kernel
theorem d_Mo_restart_17 : decode b_Mo_restart 17 = .ok (.ifCond .eq 5, 3) := by decide +kernel
theorem d_Mo_restart_20 : decode b_Mo_restart 20 = .ok (.iconst 0, 1) := by decide +kernel
theorem d_Mo_restart_21 : decode b_Mo_restart 21 = .ok (.ireturn, 1) := by decide +kernel
theorem d_Mo_dropped_0 : decode b_Mo_dropped 0 = .ok (.aload_n 0, 1) := by decide +kernel
theorem d_Mo_dropped_1 : decode b_Mo_dropped 1 = .ok (.iconst 0, 1) := by decide +kernel
theorem d_Mo_dropped_2 : decode b_Mo_dropped 2 = .ok (.putfield 39, 3) := by decide +kernel
theorem d_Mo_dropped_5 : decode b_Mo_dropped 5 = .ok (.iload_n 1, 1) := by decide +kernel
theorem d_Mo_dropped_6 : decode b_Mo_dropped 6 = .ok (.ifCond .lt 20, 3) := by decide +kernel
theorem d_Mo_dropped_26 : decode b_Mo_dropped 26 = .ok (.iconst (-1), 1) := by decide +kernel
theorem d_Mo_dropped_27 : decode b_Mo_dropped 27 = .ok (.ireturn, 1) := by decide +kernel
theorem d_Mo_dropped_9 : decode b_Mo_dropped 9 = .ok (.iload_n 1, 1) := by decide +kernel
theorem d_Mo_dropped_10 : decode b_Mo_dropped 10 = .ok (.aload_n 0, 1) := by decide +kernel
theorem d_Mo_dropped_11 : decode b_Mo_dropped 11 = .ok (.getfield 67, 3) := by decide +kernel
theorem d_Mo_dropped_14 : decode b_Mo_dropped 14 = .ok (.if_icmp .ge 12, 3) := by decide +kernel
theorem d_Mo_list_0 : decode b_Mo_list 0 = .ok (.aload_n 0, 1) := by decide +kernel
theorem d_Mo_list_1 : decode b_Mo_list 1 = .ok (.iconst 0, 1) := by decide +kernel
theorem d_Mo_list_2 : decode b_Mo_list 2 = .ok (.putfield 39, 3) := by decide +kernel
theorem d_Mo_list_5 : decode b_Mo_list 5 = .ok (.iload_n 1, 1) := by decide +kernel
theorem d_Mo_list_6 : decode b_Mo_list 6 = .ok (.ifCond .lt 20, 3) := by decide +kernel
theorem d_Mo_list_26 : decode b_Mo_list 26 = .ok (.iconst (-1), 1) := by decide +kernel
theorem d_Mo_list_27 : decode b_Mo_list 27 = .ok (.ireturn, 1) := by decide +kernel
theorem d_Mo_list_9 : decode b_Mo_list 9 = .ok (.iload_n 1, 1) := by decide +kernel
theorem d_Mo_list_10 : decode b_Mo_list 10 = .ok (.aload_n 0, 1) := by decide +kernel
theorem d_Mo_list_11 : decode b_Mo_list 11 = .ok (.getfield 53, 3) := by decide +kernel
theorem d_Mo_list_14 : decode b_Mo_list 14 = .ok (.if_icmp .ge 12, 3) := by decide +kernel
theorem d_Mo_reclaim_0 : decode b_Mo_reclaim 0 = .ok (.aload_n 0, 1) := by decide +kernel
theorem d_Mo_reclaim_1 : decode b_Mo_reclaim 1 = .ok (.iconst 0, 1) := by decide +kernel
theorem d_Mo_reclaim_2 : decode b_Mo_reclaim 2 = .ok (.putfield 39, 3) := by decide +kernel
theorem d_Mo_reclaim_5 : decode b_Mo_reclaim 5 = .ok (.iload_n 1, 1) := by decide +kernel
theorem d_Mo_reclaim_6 : decode b_Mo_reclaim 6 = .ok (.invokestatic 70, 3) := by decide +kernel
theorem d_Mo_reclaim_9 : decode b_Mo_reclaim 9 = .ok (.ifCond .eq 12, 3) := by decide +kernel
theorem d_Mo_reclaim_21 : decode b_Mo_reclaim 21 = .ok (.iconst 0, 1) := by decide +kernel
theorem d_Mo_reclaim_22 : decode b_Mo_reclaim 22 = .ok (.ireturn, 1) := by decide +kernel
theorem d_Mo_reclaim_12 : decode b_Mo_reclaim 12 = .ok (.aload_n 0, 1) := by decide +kernel
