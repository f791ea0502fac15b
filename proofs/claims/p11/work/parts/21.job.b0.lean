theorem d_X_job_0 : decode b_X_job 0 = .ok (.aload_n 0, 1) := by decide +kernel
theorem d_X_job_1 : decode b_X_job 1 = .ok (.getfield 19, 3) := by decide +kernel
theorem d_X_job_4 : decode b_X_job 4 = .ok (.invokevirtual 84, 3) := by decide +kernel
theorem d_X_job_7 : decode b_X_job 7 = .ok (.bipush 40, 2) := by decide +kernel
theorem d_X_job_9 : decode b_X_job 9 = .ok (.if_icmp .lt 5, 3) := by decide +kernel
theorem d_X_job_12 : decode b_X_job 12 = .ok (.iconst (-1), 1) := by decide +kernel
theorem d_X_job_13 : decode b_X_job 13 = .ok (.ireturn, 1) := by decide +kernel
theorem d_X_job_14 : decode b_X_job 14 = .ok (.aload_n 0, 1) := by decide +kernel
theorem d_X_job_15 : decode b_X_job 15 = .ok (.getfield 19, 3) := by decide +kernel
theorem d_X_job_18 : decode b_X_job 18 = .ok (.new 87, 3) := by decide +kernel
theorem d_X_job_21 : decode b_X_job 21 = .ok (.dup, 1) := by decide +kernel
theorem d_X_job_22 : decode b_X_job 22 = .ok (.aload_n 0, 1) := by decide +kernel
theorem d_X_job_23 : decode b_X_job 23 = .ok (.getfield 10, 3) := by decide +kernel
theorem d_X_job_26 : decode b_X_job 26 = .ok (.invokevirtual 89, 3) := by decide +kernel
theorem d_X_job_29 : decode b_X_job 29 = .ok (.invokespecial 93, 3) := by decide +kernel
theorem d_X_job_32 : decode b_X_job 32 = .ok (.invokevirtual 96, 3) := by decide +kernel
theorem d_X_job_35 : decode b_X_job 35 = .ok (.pop, 1) := by decide +kernel
theorem d_X_job_36 : decode b_X_job 36 = .ok (.aload_n 0, 1) := by decide +kernel
theorem d_X_job_37 : decode b_X_job 37 = .ok (.getfield 19, 3) := by decide +kernel
theorem d_X_job_40 : decode b_X_job 40 = .ok (.invokevirtual 84, 3) := by decide +kernel
theorem d_X_job_43 : decode b_X_job 43 = .ok (.ireturn, 1) := by decide +kernel
theorem d_X_jobCalled_0 : decode b_X_jobCalled 0 = .ok (.iload_n 1, 1) := by decide +kernel
theorem d_X_jobCalled_1 : decode b_X_jobCalled 1 = .ok (.iconst 1, 1) := by decide +kernel
theorem d_X_jobCalled_2 : decode b_X_jobCalled 2 = .ok (.if_icmp .lt 14, 3) := by decide +kernel
theorem d_X_jobCalled_16 : decode b_X_jobCalled 16 = .ok (.new 104, 3) := by decide +kernel
theorem d_X_jobCalled_19 : decode b_X_jobCalled 19 = .ok (.dup, 1) := by decide +kernel
theorem d_X_jobCalled_20 : decode b_X_jobCalled 20 = .ok (.ldc 164, 2) := by decide +kernel
theorem d_X_jobCalled_22 : decode b_X_jobCalled 22 = .ok (.invokespecial 108, 3) := by decide +kernel
theorem d_X_jobCalled_25 : decode b_X_jobCalled 25 = .ok (.athrow, 1) := by decide +kernel
theorem d_X_jobCalled_5 : decode b_X_jobCalled 5 = .ok (.iload_n 1, 1) := by decide +kernel
theorem d_X_jobCalled_6 : decode b_X_jobCalled 6 = .ok (.aload_n 0, 1) := by decide +kernel
theorem d_X_jobCalled_7 : decode b_X_jobCalled 7 = .ok (.getfield 19, 3) := by decide +kernel
theorem d_X_jobCalled_10 : decode b_X_jobCalled 10 = .ok (.invokevirtual 84, 3) := by decide +kernel
theorem d_X_jobCalled_13 : decode b_X_jobCalled 13 = .ok (.if_icmp .le 13, 3) := by decide +kernel
theorem d_X_jobCalled_26 : decode b_X_jobCalled 26 = .ok (.aload_n 0, 1) := by decide +kernel
theorem d_X_jobCalled_27 : decode b_X_jobCalled 27 = .ok (.getfield 19, 3) := by decide +kernel
theorem d_X_jobCalled_30 : decode b_X_jobCalled 30 = .ok (.iload_n 1, 1) := by decide +kernel
theorem d_X_jobCalled_31 : decode b_X_jobCalled 31 = .ok (.iconst 1, 1) := by decide +kernel
theorem d_X_jobCalled_32 : decode b_X_jobCalled 32 = .ok (.isub, 1) := by decide +kernel
theorem d_X_jobCalled_33 : decode b_X_jobCalled 33 = .ok (.invokevirtual 141, 3) := by decide +kernel
theorem d_X_jobCalled_36 : decode b_X_jobCalled 36 = .ok (.checkcast 87, 3) := by decide +kernel
theorem d_X_jobCalled_39 : decode b_X_jobCalled 39 = .ok (.areturn, 1) := by decide +kernel
