theorem d_X_jobCalled_0 : decode b_X_jobCalled 0 = .ok (.iload_n 1, 1) := by decide +kernel
theorem d_X_jobCalled_1 : decode b_X_jobCalled 1 = .ok (.iconst 1, 1) := by decide +kernel
theorem d_X_jobCalled_2 : decode b_X_jobCalled 2 = .ok (.if_icmp .lt 14, 3) := by decide +kernel
theorem d_X_jobCalled_16 : decode b_X_jobCalled 16 = .ok (.new 104, 3) := by decide +kernel
theorem d_X_jobCalled_19 : decode b_X_jobCalled 19 = .ok (.dup, 1) := by decide +kernel
theorem d_X_jobCalled_20 : decode b_X_jobCalled 20 = .ok (.ldc 164, 2) := by decide +kernel
theorem d_X_jobCalled_22 : decode b_X_jobCalled 22 = .ok (.invokespecial 108, 3) := by decide +kernel
theorem d_X_jobCalled_25 : decode b_X_jobCalled 25 = .ok (.athrow, 1) := by decide +kernel
theorem d_X_jobCalled_5 : decode b_X_jobCalled 5 = .ok (.iload_n 1, 1) := by decide +kernel
theorem d_X_jobCalled_6 : decode b_X_jobCalled 6 = .ok (.aload_n 0, 1) := by decide +kernel
theorem d_X_jobCalled_7 : decode b_X_jobCalled 7 = .ok (.getfield 19, 3) := by decide +kernel
theorem d_X_jobCalled_10 : decode b_X_jobCalled 10 = .ok (.invokevirtual 84, 3) := by decide +kernel
theorem d_X_jobCalled_13 : decode b_X_jobCalled 13 = .ok (.if_icmp .le 13, 3) := by decide +kernel
theorem d_X_relative_0 : decode b_X_relative 0 = .ok (.aload_n 0, 1) := by decide +kernel
theorem d_X_relative_1 : decode b_X_relative 1 = .ok (.iload_n 1, 1) := by decide +kernel
theorem d_X_relative_2 : decode b_X_relative 2 = .ok (.invokevirtual 100, 3) := by decide +kernel
theorem d_X_make_0 : decode b_X_make 0 = .ok (.aload_n 0, 1) := by decide +kernel
theorem d_X_make_1 : decode b_X_make 1 = .ok (.iload_n 1, 1) := by decide +kernel
theorem d_X_make_2 : decode b_X_make 2 = .ok (.invokevirtual 100, 3) := by decide +kernel
theorem d_X_end_0 : decode b_X_end 0 = .ok (.aload_n 0, 1) := by decide +kernel
theorem d_X_end_1 : decode b_X_end 1 = .ok (.iload_n 1, 1) := by decide +kernel
theorem d_X_end_2 : decode b_X_end 2 = .ok (.invokevirtual 100, 3) := by decide +kernel
theorem d_X_restart_0 : decode b_X_restart 0 = .ok (.aload_n 0, 1) := by decide +kernel
theorem d_X_restart_1 : decode b_X_restart 1 = .ok (.iload_n 1, 1) := by decide +kernel
theorem d_X_restart_2 : decode b_X_restart 2 = .ok (.invokevirtual 100, 3) := by decide +kernel
