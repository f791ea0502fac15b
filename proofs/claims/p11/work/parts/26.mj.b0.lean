theorem d_Mo_isJob_0 : decode b_Mo_isJob 0 = .ok (.iload_n 1, 1) := by decide +kernel
theorem d_Mo_isJob_1 : decode b_Mo_isJob 1 = .ok (.ifCond .le 15, 3) := by decide +kernel
theorem d_Mo_isJob_16 : decode b_Mo_isJob 16 = .ok (.iconst 0, 1) := by decide +kernel
theorem d_Mo_isJob_17 : decode b_Mo_isJob 17 = .ok (.ireturn, 1) := by decide +kernel
theorem d_Mo_isJob_4 : decode b_Mo_isJob 4 = .ok (.iload_n 1, 1) := by decide +kernel
theorem d_Mo_isJob_5 : decode b_Mo_isJob 5 = .ok (.aload_n 0, 1) := by decide +kernel
theorem d_Mo_isJob_6 : decode b_Mo_isJob 6 = .ok (.getfield 81, 3) := by decide +kernel
theorem d_Mo_isJob_9 : decode b_Mo_isJob 9 = .ok (.if_icmp .gt 7, 3) := by decide +kernel
theorem d_Mo_isJob_12 : decode b_Mo_isJob 12 = .ok (.iconst 1, 1) := by decide +kernel
theorem d_Mo_isJob_13 : decode b_Mo_isJob 13 = .ok (.goto 4, 3) := by decide +kernel
theorem d_Mo_job_0 : decode b_Mo_job 0 = .ok (.aload_n 0, 1) := by decide +kernel
theorem d_Mo_job_1 : decode b_Mo_job 1 = .ok (.iconst 0, 1) := by decide +kernel
theorem d_Mo_job_2 : decode b_Mo_job 2 = .ok (.putfield 39, 3) := by decide +kernel
theorem d_Mo_job_5 : decode b_Mo_job 5 = .ok (.aload_n 0, 1) := by decide +kernel
theorem d_Mo_job_6 : decode b_Mo_job 6 = .ok (.getfield 81, 3) := by decide +kernel
theorem d_Mo_job_9 : decode b_Mo_job 9 = .ok (.bipush 40, 2) := by decide +kernel
theorem d_Mo_job_11 : decode b_Mo_job 11 = .ok (.if_icmp .ne 5, 3) := by decide +kernel
theorem d_Mo_job_14 : decode b_Mo_job 14 = .ok (.iconst (-1), 1) := by decide +kernel
theorem d_Mo_job_15 : decode b_Mo_job 15 = .ok (.ireturn, 1) := by decide +kernel
theorem d_Mo_job_16 : decode b_Mo_job 16 = .ok (.aload_n 0, 1) := by decide +kernel
theorem d_Mo_job_17 : decode b_Mo_job 17 = .ok (.dup, 1) := by decide +kernel
theorem d_Mo_job_18 : decode b_Mo_job 18 = .ok (.getfield 81, 3) := by decide +kernel
theorem d_Mo_job_21 : decode b_Mo_job 21 = .ok (.iconst 1, 1) := by decide +kernel
theorem d_Mo_job_22 : decode b_Mo_job 22 = .ok (.iadd, 1) := by decide +kernel
theorem d_Mo_job_23 : decode b_Mo_job 23 = .ok (.putfield 81, 3) := by decide +kernel
theorem d_Mo_job_26 : decode b_Mo_job 26 = .ok (.aload_n 0, 1) := by decide +kernel
theorem d_Mo_job_27 : decode b_Mo_job 27 = .ok (.getfield 19, 3) := by decide +kernel
theorem d_Mo_job_30 : decode b_Mo_job 30 = .ok (.aload_n 0, 1) := by decide +kernel
theorem d_Mo_job_31 : decode b_Mo_job 31 = .ok (.getfield 81, 3) := by decide +kernel
theorem d_Mo_job_34 : decode b_Mo_job 34 = .ok (.aload_n 0, 1) := by decide +kernel
theorem d_Mo_job_35 : decode b_Mo_job 35 = .ok (.getfield 53, 3) := by decide +kernel
theorem d_Mo_job_38 : decode b_Mo_job 38 = .ok (.iastore, 1) := by decide +kernel
theorem d_Mo_job_39 : decode b_Mo_job 39 = .ok (.iconst 0, 1) := by decide +kernel
theorem d_Mo_job_40 : decode b_Mo_job 40 = .ok (.istore_n 1, 1) := by decide +kernel
theorem d_Mo_job_41 : decode b_Mo_job 41 = .ok (.iload_n 1, 1) := by decide +kernel
theorem d_Mo_job_42 : decode b_Mo_job 42 = .ok (.aload_n 0, 1) := by decide +kernel
theorem d_Mo_job_43 : decode b_Mo_job 43 = .ok (.getfield 53, 3) := by decide +kernel
theorem d_Mo_job_46 : decode b_Mo_job 46 = .ok (.if_icmp .ge 32, 3) := by decide +kernel
theorem d_Mo_job_78 : decode b_Mo_job 78 = .ok (.aload_n 0, 1) := by decide +kernel
theorem d_Mo_job_79 : decode b_Mo_job 79 = .ok (.getfield 81, 3) := by decide +kernel
theorem d_Mo_job_82 : decode b_Mo_job 82 = .ok (.ireturn, 1) := by decide +kernel
theorem d_Mo_job_49 : decode b_Mo_job 49 = .ok (.aload_n 0, 1) := by decide +kernel
theorem d_Mo_job_50 : decode b_Mo_job 50 = .ok (.getfield 16, 3) := by decide +kernel
theorem d_Mo_job_53 : decode b_Mo_job 53 = .ok (.sipush 256, 3) := by decide +kernel
theorem d_Mo_job_56 : decode b_Mo_job 56 = .ok (.aload_n 0, 1) := by decide +kernel
theorem d_Mo_job_57 : decode b_Mo_job 57 = .ok (.getfield 81, 3) := by decide +kernel
theorem d_Mo_job_60 : decode b_Mo_job 60 = .ok (.iconst 1, 1) := by decide +kernel
theorem d_Mo_job_61 : decode b_Mo_job 61 = .ok (.isub, 1) := by decide +kernel
theorem d_Mo_job_62 : decode b_Mo_job 62 = .ok (.imul, 1) := by decide +kernel
theorem d_Mo_job_63 : decode b_Mo_job 63 = .ok (.iload_n 1, 1) := by decide +kernel
theorem d_Mo_job_64 : decode b_Mo_job 64 = .ok (.iadd, 1) := by decide +kernel
theorem d_Mo_job_65 : decode b_Mo_job 65 = .ok (.aload_n 0, 1) := by decide +kernel
theorem d_Mo_job_66 : decode b_Mo_job 66 = .ok (.getfield 13, 3) := by decide +kernel
theorem d_Mo_job_69 : decode b_Mo_job 69 = .ok (.iload_n 1, 1) := by decide +kernel
theorem d_Mo_job_70 : decode b_Mo_job 70 = .ok (.iaload, 1) := by decide +kernel
theorem d_Mo_job_71 : decode b_Mo_job 71 = .ok (.iastore, 1) := by decide +kernel
theorem d_Mo_job_72 : decode b_Mo_job 72 = .ok (.iinc 1 1, 3) := by decide +kernel
theorem d_Mo_job_75 : decode b_Mo_job 75 = .ok (.goto (-34), 3) := by decide +kernel
theorem d_Mo_numberOf_0 : decode b_Mo_numberOf 0 = .ok (.aload_n 0, 1) := by decide +kernel
theorem d_Mo_numberOf_1 : decode b_Mo_numberOf 1 = .ok (.getfield 19, 3) := by decide +kernel
theorem d_Mo_numberOf_4 : decode b_Mo_numberOf 4 = .ok (.iload_n 1, 1) := by decide +kernel
theorem d_Mo_numberOf_5 : decode b_Mo_numberOf 5 = .ok (.iaload, 1) := by decide +kernel
theorem d_Mo_numberOf_6 : decode b_Mo_numberOf 6 = .ok (.ifCond .ne 7, 3) := by decide +kernel
theorem d_Mo_numberOf_13 : decode b_Mo_numberOf 13 = .ok (.aload_n 0, 1) := by decide +kernel
theorem d_Mo_numberOf_14 : decode b_Mo_numberOf 14 = .ok (.getfield 16, 3) := by decide +kernel
theorem d_Mo_numberOf_17 : decode b_Mo_numberOf 17 = .ok (.sipush 256, 3) := by decide +kernel
theorem d_Mo_numberOf_20 : decode b_Mo_numberOf 20 = .ok (.iload_n 1, 1) := by decide +kernel
theorem d_Mo_numberOf_21 : decode b_Mo_numberOf 21 = .ok (.iconst 1, 1) := by decide +kernel
theorem d_Mo_numberOf_22 : decode b_Mo_numberOf 22 = .ok (.isub, 1) := by decide +kernel
theorem d_Mo_numberOf_23 : decode b_Mo_numberOf 23 = .ok (.imul, 1) := by decide +kernel
theorem d_Mo_numberOf_24 : decode b_Mo_numberOf 24 = .ok (.aload_n 0, 1) := by decide +kernel
theorem d_Mo_numberOf_25 : decode b_Mo_numberOf 25 = .ok (.getfield 19, 3) := by decide +kernel
theorem d_Mo_numberOf_28 : decode b_Mo_numberOf 28 = .ok (.iload_n 1, 1) := by decide +kernel
theorem d_Mo_numberOf_29 : decode b_Mo_numberOf 29 = .ok (.iaload, 1) := by decide +kernel
theorem d_Mo_numberOf_30 : decode b_Mo_numberOf 30 = .ok (.iadd, 1) := by decide +kernel
theorem d_Mo_numberOf_31 : decode b_Mo_numberOf 31 = .ok (.iconst 1, 1) := by decide +kernel
theorem d_Mo_numberOf_32 : decode b_Mo_numberOf 32 = .ok (.isub, 1) := by decide +kernel
theorem d_Mo_numberOf_33 : decode b_Mo_numberOf 33 = .ok (.iaload, 1) := by decide +kernel
theorem d_Mo_numberOf_34 : decode b_Mo_numberOf 34 = .ok (.istore_n 3, 1) := by decide +kernel
theorem d_Mo_numberOf_35 : decode b_Mo_numberOf 35 = .ok (.iload_n 3, 1) := by decide +kernel
theorem d_Mo_numberOf_36 : decode b_Mo_numberOf 36 = .ok (.iload_n 2, 1) := by decide +kernel
theorem d_Mo_numberOf_37 : decode b_Mo_numberOf 37 = .ok (.iadd, 1) := by decide +kernel
theorem d_Mo_numberOf_38 : decode b_Mo_numberOf 38 = .ok (.iconst 1, 1) := by decide +kernel
theorem d_Mo_numberOf_39 : decode b_Mo_numberOf 39 = .ok (.isub, 1) := by decide +kernel
theorem d_Mo_numberOf_40 : decode b_Mo_numberOf 40 = .ok (.sipush 9999, 3) := by decide +kernel
theorem d_Mo_numberOf_43 : decode b_Mo_numberOf 43 = .ok (.irem, 1) := by decide +kernel
theorem d_Mo_numberOf_44 : decode b_Mo_numberOf 44 = .ok (.iconst 1, 1) := by decide +kernel
theorem d_Mo_numberOf_45 : decode b_Mo_numberOf 45 = .ok (.iadd, 1) := by decide +kernel
theorem d_Mo_numberOf_46 : decode b_Mo_numberOf 46 = .ok (.ireturn, 1) := by decide +kernel
theorem d_Mo_numberOf_9 : decode b_Mo_numberOf 9 = .ok (.iconst 0, 1) := by decide +kernel
theorem d_Mo_numberOf_10 : decode b_Mo_numberOf 10 = .ok (.goto 24, 3) := by decide +kernel
theorem d_Mo_isOwn_0 : decode b_Mo_isOwn 0 = .ok (.aload_n 0, 1) := by decide +kernel
theorem d_Mo_isOwn_1 : decode b_Mo_isOwn 1 = .ok (.iload_n 2, 1) := by decide +kernel
theorem d_Mo_isOwn_2 : decode b_Mo_isOwn 2 = .ok (.invokevirtual 42, 3) := by decide +kernel
theorem d_Mo_isOwn_5 : decode b_Mo_isOwn 5 = .ok (.iload_n 1, 1) := by decide +kernel
theorem d_Mo_isOwn_6 : decode b_Mo_isOwn 6 = .ok (.if_icmp .ne 34, 3) := by decide +kernel
theorem d_Mo_isOwn_40 : decode b_Mo_isOwn 40 = .ok (.iconst 0, 1) := by decide +kernel
theorem d_Mo_isOwn_41 : decode b_Mo_isOwn 41 = .ok (.ireturn, 1) := by decide +kernel
theorem d_Mo_isOwn_9 : decode b_Mo_isOwn 9 = .ok (.aload_n 0, 1) := by decide +kernel
theorem d_Mo_isOwn_10 : decode b_Mo_isOwn 10 = .ok (.iload_n 2, 1) := by decide +kernel
theorem d_Mo_isOwn_11 : decode b_Mo_isOwn 11 = .ok (.invokevirtual 74, 3) := by decide +kernel
theorem d_Mo_isOwn_14 : decode b_Mo_isOwn 14 = .ok (.iconst 1, 1) := by decide +kernel
theorem d_Mo_isOwn_15 : decode b_Mo_isOwn 15 = .ok (.if_icmp .eq 21, 3) := by decide +kernel
theorem d_Mo_isOwn_36 : decode b_Mo_isOwn 36 = .ok (.iconst 1, 1) := by decide +kernel
theorem d_Mo_isOwn_37 : decode b_Mo_isOwn 37 = .ok (.goto 4, 3) := by decide +kernel
theorem d_Mo_isOwn_18 : decode b_Mo_isOwn 18 = .ok (.aload_n 0, 1) := by decide +kernel
theorem d_Mo_isOwn_19 : decode b_Mo_isOwn 19 = .ok (.iload_n 2, 1) := by decide +kernel
theorem d_Mo_isOwn_20 : decode b_Mo_isOwn 20 = .ok (.invokevirtual 74, 3) := by decide +kernel
theorem d_Mo_isOwn_23 : decode b_Mo_isOwn 23 = .ok (.iconst 2, 1) := by decide +kernel
theorem d_Mo_isOwn_24 : decode b_Mo_isOwn 24 = .ok (.if_icmp .eq 12, 3) := by decide +kernel
theorem d_Mo_isOwn_27 : decode b_Mo_isOwn 27 = .ok (.aload_n 0, 1) := by decide +kernel
theorem d_Mo_isOwn_28 : decode b_Mo_isOwn 28 = .ok (.iload_n 2, 1) := by decide +kernel
theorem d_Mo_isOwn_29 : decode b_Mo_isOwn 29 = .ok (.invokevirtual 74, 3) := by decide +kernel
theorem d_Mo_isOwn_32 : decode b_Mo_isOwn 32 = .ok (.iconst 3, 1) := by decide +kernel
theorem d_Mo_isOwn_33 : decode b_Mo_isOwn 33 = .ok (.if_icmp .ne 7, 3) := by decide +kernel
