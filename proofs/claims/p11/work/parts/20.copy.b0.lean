theorem d_Ars_copyOf3_0 : decode b_Ars_copyOf3 0 = .ok (.iload_n 1, 1) := by decide +kernel
theorem d_Ars_copyOf3_1 : decode b_Ars_copyOf3 1 = .ok (.aload_n 0, 1) := by decide +kernel
theorem d_Ars_copyOf3_2 : decode b_Ars_copyOf3 2 = .ok (.arraylength, 1) := by decide +kernel
theorem d_Ars_copyOf3_3 : decode b_Ars_copyOf3 3 = .ok (.if_icmp .ne 11, 3) := by decide +kernel
theorem d_Ars_copyOf3_14 : decode b_Ars_copyOf3 14 = .ok (.iload_n 1, 1) := by decide +kernel
theorem d_Ars_copyOf3_15 : decode b_Ars_copyOf3 15 = .ok (.newarray .int, 2) := by decide +kernel
theorem d_Ars_copyOf3_17 : decode b_Ars_copyOf3 17 = .ok (.astore_n 2, 1) := by decide +kernel
theorem d_Ars_copyOf3_18 : decode b_Ars_copyOf3 18 = .ok (.aload_n 0, 1) := by decide +kernel
theorem d_Ars_copyOf3_19 : decode b_Ars_copyOf3 19 = .ok (.iconst 0, 1) := by decide +kernel
theorem d_Ars_copyOf3_20 : decode b_Ars_copyOf3 20 = .ok (.aload_n 2, 1) := by decide +kernel
theorem d_Ars_copyOf3_21 : decode b_Ars_copyOf3 21 = .ok (.iconst 0, 1) := by decide +kernel
theorem d_Ars_copyOf3_22 : decode b_Ars_copyOf3 22 = .ok (.aload_n 0, 1) := by decide +kernel
theorem d_Ars_copyOf3_23 : decode b_Ars_copyOf3 23 = .ok (.arraylength, 1) := by decide +kernel
theorem d_Ars_copyOf3_24 : decode b_Ars_copyOf3 24 = .ok (.iload_n 1, 1) := by decide +kernel
theorem d_Ars_copyOf3_25 : decode b_Ars_copyOf3 25 = .ok (.invokestatic 304, 3) := by decide +kernel
theorem d_Ars_copyOf3_28 : decode b_Ars_copyOf3 28 = .ok (.invokestatic 150, 3) := by decide +kernel
theorem d_Ars_copyOf3_31 : decode b_Ars_copyOf3 31 = .ok (.aload_n 2, 1) := by decide +kernel
theorem d_Ars_copyOf3_32 : decode b_Ars_copyOf3 32 = .ok (.areturn, 1) := by decide +kernel
theorem d_Row_copy_0 : decode b_Row_copy 0 = .ok (.aload_n 0, 1) := by decide +kernel
theorem d_Row_copy_1 : decode b_Row_copy 1 = .ok (.getfield 9, 3) := by decide +kernel
theorem d_Row_copy_4 : decode b_Row_copy 4 = .ok (.aload_n 0, 1) := by decide +kernel
theorem d_Row_copy_5 : decode b_Row_copy 5 = .ok (.getfield 15, 3) := by decide +kernel
theorem d_Row_copy_8 : decode b_Row_copy 8 = .ok (.invokestatic 19, 3) := by decide +kernel
theorem d_Row_copy_11 : decode b_Row_copy 11 = .ok (.areturn, 1) := by decide +kernel
theorem d_Job_init_0 : decode b_Job_init 0 = .ok (.aload_n 0, 1) := by decide +kernel
theorem d_Job_init_1 : decode b_Job_init 1 = .ok (.invokespecial 3, 3) := by decide +kernel
theorem d_Job_init_4 : decode b_Job_init 4 = .ok (.aload_n 0, 1) := by decide +kernel
theorem d_Job_init_5 : decode b_Job_init 5 = .ok (.aload_n 1, 1) := by decide +kernel
theorem d_Job_init_6 : decode b_Job_init 6 = .ok (.putfield 9, 3) := by decide +kernel
theorem d_Job_init_9 : decode b_Job_init 9 = .ok (.return_, 1) := by decide +kernel
