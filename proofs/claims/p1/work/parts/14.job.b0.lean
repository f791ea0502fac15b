theorem d_Ars_copyOf_0 : decode b_Ars_copyOf 0 = .ok (.iload_n 1, 1) := by decide +kernel
theorem d_Ars_copyOf_1 : decode b_Ars_copyOf 1 = .ok (.aload_n 0, 1) := by decide +kernel
theorem d_Ars_copyOf_2 : decode b_Ars_copyOf 2 = .ok (.arraylength, 1) := by decide +kernel
theorem d_Ars_copyOf_3 : decode b_Ars_copyOf 3 = .ok (.if_icmp .ne 11, 3) := by decide +kernel
theorem d_Ars_copyOf_14 : decode b_Ars_copyOf 14 = .ok (.iload_n 1, 1) := by decide +kernel
theorem d_Ars_copyOf_15 : decode b_Ars_copyOf 15 = .ok (.newarray .int, 2) := by decide +kernel
theorem d_Ars_copyOf_17 : decode b_Ars_copyOf 17 = .ok (.astore_n 2, 1) := by decide +kernel
theorem d_Ars_copyOf_18 : decode b_Ars_copyOf 18 = .ok (.aload_n 0, 1) := by decide +kernel
theorem d_Ars_copyOf_19 : decode b_Ars_copyOf 19 = .ok (.iconst 0, 1) := by decide +kernel
theorem d_Ars_copyOf_20 : decode b_Ars_copyOf 20 = .ok (.aload_n 2, 1) := by decide +kernel
theorem d_Ars_copyOf_21 : decode b_Ars_copyOf 21 = .ok (.iconst 0, 1) := by decide +kernel
theorem d_Ars_copyOf_22 : decode b_Ars_copyOf 22 = .ok (.aload_n 0, 1) := by decide +kernel
theorem d_Ars_copyOf_23 : decode b_Ars_copyOf 23 = .ok (.arraylength, 1) := by decide +kernel
theorem d_Ars_copyOf_24 : decode b_Ars_copyOf 24 = .ok (.iload_n 1, 1) := by decide +kernel
theorem d_Ars_copyOf_25 : decode b_Ars_copyOf 25 = .ok (.invokestatic 304, 3) := by decide +kernel
theorem d_Ars_copyOf_28 : decode b_Ars_copyOf 28 = .ok (.invokestatic 150, 3) := by decide +kernel
theorem d_Ars_copyOf_31 : decode b_Ars_copyOf 31 = .ok (.aload_n 2, 1) := by decide +kernel
theorem d_Ars_copyOf_32 : decode b_Ars_copyOf 32 = .ok (.areturn, 1) := by decide +kernel
theorem d_Row_copy_0 : decode b_Row_copy 0 = .ok (.aload_n 0, 1) := by decide +kernel
theorem d_Row_copy_1 : decode b_Row_copy 1 = .ok (.getfield 9, 3) := by decide +kernel
theorem d_Row_copy_4 : decode b_Row_copy 4 = .ok (.aload_n 0, 1) := by decide +kernel
theorem d_Row_copy_5 : decode b_Row_copy 5 = .ok (.getfield 15, 3) := by decide +kernel
theorem d_Row_copy_8 : decode b_Row_copy 8 = .ok (.invokestatic 19, 3) := by decide +kernel
theorem d_Row_copy_11 : decode b_Row_copy 11 = .ok (.areturn, 1) := by decide +kernel
theorem d_Job_init_0 : decode b_Job_init 0 = .ok (.aload_n 0, 1) := by decide +kernel
theorem d_Job_init_1 : decode b_Job_init 1 = .ok (.invokespecial 3, 3) := by decide +kernel
theorem d_Job_init_4 : decode b_Job_init 4 = .ok (.aload_n 0, 1) := by decide +kernel
theorem d_Job_init_5 : decode b_Job_init 5 = .ok (.aload_n 1, 1) := by decide +kernel
theorem d_Job_init_6 : decode b_Job_init 6 = .ok (.putfield 9, 3) := by decide +kernel
theorem d_Job_init_9 : decode b_Job_init 9 = .ok (.return_, 1) := by decide +kernel
theorem d_X_job_0 : decode b_X_job 0 = .ok (.aload_n 0, 1) := by decide +kernel
theorem d_X_job_1 : decode b_X_job 1 = .ok (.getfield 19, 3) := by decide +kernel
theorem d_X_job_4 : decode b_X_job 4 = .ok (.invokevirtual 84, 3) := by decide +kernel
theorem d_X_job_7 : decode b_X_job 7 = .ok (.bipush 40, 2) := by decide +kernel
theorem d_X_job_9 : decode b_X_job 9 = .ok (.if_icmp .lt 5, 3) := by decide +kernel
theorem d_X_job_14 : decode b_X_job 14 = .ok (.aload_n 0, 1) := by decide +kernel
theorem d_X_job_15 : decode b_X_job 15 = .ok (.getfield 19, 3) := by decide +kernel
theorem d_X_job_18 : decode b_X_job 18 = .ok (.new 87, 3) := by decide +kernel
theorem d_X_job_21 : decode b_X_job 21 = .ok (.dup, 1) := by decide +kernel
theorem d_X_job_22 : decode b_X_job 22 = .ok (.aload_n 0, 1) := by decide +kernel
theorem d_X_job_23 : decode b_X_job 23 = .ok (.getfield 10, 3) := by decide +kernel
theorem d_X_job_26 : decode b_X_job 26 = .ok (.invokevirtual 89, 3) := by decide +kernel
theorem d_X_job_29 : decode b_X_job 29 = .ok (.invokespecial 93, 3) := by decide +kernel
theorem d_X_job_32 : decode b_X_job 32 = .ok (.invokevirtual 96, 3) := by decide +kernel
theorem d_X_job_35 : decode b_X_job 35 = .ok (.pop, 1) := by decide +kernel
theorem d_X_job_36 : decode b_X_job 36 = .ok (.aload_n 0, 1) := by decide +kernel
theorem d_X_job_37 : decode b_X_job 37 = .ok (.getfield 19, 3) := by decide +kernel
theorem d_X_job_40 : decode b_X_job 40 = .ok (.invokevirtual 84, 3) := by decide +kernel
theorem d_X_job_43 : decode b_X_job 43 = .ok (.ireturn, 1) := by decide +kernel
