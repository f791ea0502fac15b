theorem d_X_holdToLimit_1 : decode b_X_holdToLimit 1 = .ok (.getfield 10, 3) := by decide +kernel
theorem d_X_holdToLimit_4 : decode b_X_holdToLimit 4 = .ok (.getfield 81, 3) := by decide +kernel
theorem d_X_holdToLimit_7 : decode b_X_holdToLimit 7 = .ok (.aload_n 0, 1) := by decide +kernel
theorem d_X_holdToLimit_8 : decode b_X_holdToLimit 8 = .ok (.getfield 48, 3) := by decide +kernel
theorem d_X_holdToLimit_11 : decode b_X_holdToLimit 11 = .ok (.if_icmp .gt 4, 3) := by decide +kernel
theorem d_X_holdToLimit_14 : decode b_X_holdToLimit 14 = .ok (.return_, 1) := by decide +kernel
theorem d_X_bringIntoRow_0 : decode b_X_bringIntoRow 0 = .ok (.aload_n 1, 1) := by decide +kernel
theorem d_X_bringIntoRow_1 : decode b_X_bringIntoRow 1 = .ok (.iconst 1, 1) := by decide +kernel
theorem d_X_bringIntoRow_2 : decode b_X_bringIntoRow 2 = .ok (.putfield 64, 3) := by decide +kernel
theorem d_X_bringIntoRow_5 : decode b_X_bringIntoRow 5 = .ok (.aload_n 0, 1) := by decide +kernel
theorem d_X_bringIntoRow_6 : decode b_X_bringIntoRow 6 = .ok (.getfield 10, 3) := by decide +kernel
theorem d_X_bringIntoRow_9 : decode b_X_bringIntoRow 9 = .ok (.aload_n 1, 1) := by decide +kernel
theorem d_X_bringIntoRow_10 : decode b_X_bringIntoRow 10 = .ok (.getfield 166, 3) := by decide +kernel
theorem d_X_bringIntoRow_13 : decode b_X_bringIntoRow 13 = .ok (.invokevirtual 169, 3) := by decide +kernel
theorem d_X_bringIntoRow_16 : decode b_X_bringIntoRow 16 = .ok (.aload_n 0, 1) := by decide +kernel
theorem d_X_bringIntoRow_17 : decode b_X_bringIntoRow 17 = .ok (.invokevirtual 172, 3) := by decide +kernel
theorem d_X_bringIntoRow_20 : decode b_X_bringIntoRow 20 = .ok (.return_, 1) := by decide +kernel
theorem d_X_catalogue_0 : decode b_X_catalogue 0 = .ok (.iload_n 1, 1) := by decide +kernel
theorem d_X_catalogue_1 : decode b_X_catalogue 1 = .ok (.invokestatic 56, 3) := by decide +kernel
theorem d_X_catalogue_4 : decode b_X_catalogue 4 = .ok (.ifCond .ne 5, 3) := by decide +kernel
theorem d_X_catalogue_9 : decode b_X_catalogue 9 = .ok (.aload_n 0, 1) := by decide +kernel
theorem d_X_catalogue_10 : decode b_X_catalogue 10 = .ok (.iload_n 1, 1) := by decide +kernel
theorem d_X_catalogue_11 : decode b_X_catalogue 11 = .ok (.invokevirtual 60, 3) := by decide +kernel
theorem d_X_catalogue_14 : decode b_X_catalogue 14 = .ok (.astore_n 2, 1) := by decide +kernel
theorem d_X_catalogue_15 : decode b_X_catalogue 15 = .ok (.aload_n 2, 1) := by decide +kernel
theorem d_X_catalogue_16 : decode b_X_catalogue 16 = .ok (.getfield 64, 3) := by decide +kernel
theorem d_X_catalogue_19 : decode b_X_catalogue 19 = .ok (.iconst 1, 1) := by decide +kernel
theorem d_X_catalogue_20 : decode b_X_catalogue 20 = .ok (.if_icmp .eq 10, 3) := by decide +kernel
theorem d_X_catalogue_23 : decode b_X_catalogue 23 = .ok (.aload_n 2, 1) := by decide +kernel
theorem d_X_catalogue_24 : decode b_X_catalogue 24 = .ok (.invokevirtual 67, 3) := by decide +kernel
theorem d_X_catalogue_27 : decode b_X_catalogue 27 = .ok (.ifCond .eq 5, 3) := by decide +kernel
theorem d_X_catalogue_32 : decode b_X_catalogue 32 = .ok (.aload_n 2, 1) := by decide +kernel
theorem d_X_catalogue_33 : decode b_X_catalogue 33 = .ok (.getfield 64, 3) := by decide +kernel
theorem d_X_catalogue_36 : decode b_X_catalogue 36 = .ok (.ifCond .ne 14, 3) := by decide +kernel
theorem d_X_catalogue_39 : decode b_X_catalogue 39 = .ok (.aload_n 0, 1) := by decide +kernel
theorem d_X_catalogue_40 : decode b_X_catalogue 40 = .ok (.iload_n 1, 1) := by decide +kernel
theorem d_X_catalogue_41 : decode b_X_catalogue 41 = .ok (.invokevirtual 71, 3) := by decide +kernel
theorem d_X_catalogue_44 : decode b_X_catalogue 44 = .ok (.astore_n 2, 1) := by decide +kernel
theorem d_X_catalogue_45 : decode b_X_catalogue 45 = .ok (.aload_n 2, 1) := by decide +kernel
theorem d_X_catalogue_46 : decode b_X_catalogue 46 = .ok (.iconst 0, 1) := by decide +kernel
theorem d_X_catalogue_47 : decode b_X_catalogue 47 = .ok (.invokevirtual 74, 3) := by decide +kernel
theorem d_X_catalogue_50 : decode b_X_catalogue 50 = .ok (.aload_n 0, 1) := by decide +kernel
theorem d_X_catalogue_51 : decode b_X_catalogue 51 = .ok (.aload_n 2, 1) := by decide +kernel
theorem d_X_catalogue_52 : decode b_X_catalogue 52 = .ok (.invokevirtual 77, 3) := by decide +kernel
theorem d_X_catalogue_55 : decode b_X_catalogue 55 = .ok (.aload_n 0, 1) := by decide +kernel
theorem d_X_catalogue_56 : decode b_X_catalogue 56 = .ok (.getfield 10, 3) := by decide +kernel
theorem d_X_catalogue_59 : decode b_X_catalogue 59 = .ok (.getfield 81, 3) := by decide +kernel
theorem d_X_catalogue_62 : decode b_X_catalogue 62 = .ok (.ireturn, 1) := by decide +kernel
theorem d_X_catalogue_7 : decode b_X_catalogue 7 = .ok (.iconst (-1), 1) := by decide +kernel
theorem d_X_catalogue_8 : decode b_X_catalogue 8 = .ok (.ireturn, 1) := by decide +kernel
theorem d_Ars_copyOf_0 : decode b_Ars_copyOf 0 = .ok (.iload_n 1, 1) := by decide +kernel
theorem d_Ars_copyOf_1 : decode b_Ars_copyOf 1 = .ok (.aload_n 0, 1) := by decide +kernel
theorem d_Ars_copyOf_2 : decode b_Ars_copyOf 2 = .ok (.arraylength, 1) := by decide +kernel
theorem d_Ars_copyOf_3 : decode b_Ars_copyOf 3 = .ok (.if_icmp .ne 11, 3) := by decide +kernel
theorem d_Ars_copyOf_14 : decode b_Ars_copyOf 14 = .ok (.iload_n 1, 1) := by decide +kernel
theorem d_Ars_copyOf_15 : decode b_Ars_copyOf 15 = .ok (.newarray .int, 2) := by decide +kernel
theorem d_Ars_copyOf_17 : decode b_Ars_copyOf 17 = .ok (.astore_n 2, 1) := by decide +kernel
theorem d_Ars_copyOf_18 : decode b_Ars_copyOf 18 = .ok (.aload_n 0, 1) := by decide +kernel
theorem d_Ars_copyOf_19 : decode b_Ars_copyOf 19 = .ok (.iconst 0, 1) := by decide +kernel
theorem d_Ars_copyOf_20 : decode b_Ars_copyOf 20 = .ok (.aload_n 2, 1) := by decide +kernel
theorem d_Ars_copyOf_21 : decode b_Ars_copyOf 21 = .ok (.iconst 0, 1) := by decide +kernel
theorem d_Ars_copyOf_22 : decode b_Ars_copyOf 22 = .ok (.aload_n 0, 1) := by decide +kernel
theorem d_Ars_copyOf_23 : decode b_Ars_copyOf 23 = .ok (.arraylength, 1) := by decide +kernel
theorem d_Ars_copyOf_24 : decode b_Ars_copyOf 24 = .ok (.iload_n 1, 1) := by decide +kernel
theorem d_Ars_copyOf_25 : decode b_Ars_copyOf 25 = .ok (.invokestatic 304, 3) := by decide +kernel
theorem d_Ars_copyOf_28 : decode b_Ars_copyOf 28 = .ok (.invokestatic 150, 3) := by decide +kernel
theorem d_Ars_copyOf_31 : decode b_Ars_copyOf 31 = .ok (.aload_n 2, 1) := by decide +kernel
theorem d_Ars_copyOf_32 : decode b_Ars_copyOf 32 = .ok (.areturn, 1) := by decide +kernel
theorem d_Row_copy_0 : decode b_Row_copy 0 = .ok (.aload_n 0, 1) := by decide +kernel
theorem d_Row_copy_1 : decode b_Row_copy 1 = .ok (.getfield 9, 3) := by decide +kernel
theorem d_Row_copy_4 : decode b_Row_copy 4 = .ok (.aload_n 0, 1) := by decide +kernel
theorem d_Row_copy_5 : decode b_Row_copy 5 = .ok (.getfield 15, 3) := by decide +kernel
theorem d_Row_copy_8 : decode b_Row_copy 8 = .ok (.invokestatic 19, 3) := by decide +kernel
theorem d_Row_copy_11 : decode b_Row_copy 11 = .ok (.areturn, 1) := by decide +kernel
theorem d_Job_init_0 : decode b_Job_init 0 = .ok (.aload_n 0, 1) := by decide +kernel
theorem d_Job_init_1 : decode b_Job_init 1 = .ok (.invokespecial 3, 3) := by decide +kernel
theorem d_Job_init_4 : decode b_Job_init 4 = .ok (.aload_n 0, 1) := by decide +kernel
theorem d_Job_init_5 : decode b_Job_init 5 = .ok (.aload_n 1, 1) := by decide +kernel
theorem d_Job_init_6 : decode b_Job_init 6 = .ok (.putfield 9, 3) := by decide +kernel
theorem d_Job_init_9 : decode b_Job_init 9 = .ok (.return_, 1) := by decide +kernel
theorem d_X_job_0 : decode b_X_job 0 = .ok (.aload_n 0, 1) := by decide +kernel
theorem d_X_job_1 : decode b_X_job 1 = .ok (.getfield 19, 3) := by decide +kernel
theorem d_X_job_4 : decode b_X_job 4 = .ok (.invokevirtual 84, 3) := by decide +kernel
theorem d_X_job_7 : decode b_X_job 7 = .ok (.bipush 40, 2) := by decide +kernel
theorem d_X_job_9 : decode b_X_job 9 = .ok (.if_icmp .lt 5, 3) := by decide +kernel
theorem d_X_job_14 : decode b_X_job 14 = .ok (.aload_n 0, 1) := by decide +kernel
theorem d_X_job_15 : decode b_X_job 15 = .ok (.getfield 19, 3) := by decide +kernel
theorem d_X_job_18 : decode b_X_job 18 = .ok (.new 87, 3) := by decide +kernel
theorem d_X_job_21 : decode b_X_job 21 = .ok (.dup, 1) := by decide +kernel
theorem d_X_job_22 : decode b_X_job 22 = .ok (.aload_n 0, 1) := by decide +kernel
theorem d_X_job_23 : decode b_X_job 23 = .ok (.getfield 10, 3) := by decide +kernel
theorem d_X_job_26 : decode b_X_job 26 = .ok (.invokevirtual 89, 3) := by decide +kernel
theorem d_X_job_29 : decode b_X_job 29 = .ok (.invokespecial 93, 3) := by decide +kernel
theorem d_X_job_32 : decode b_X_job 32 = .ok (.invokevirtual 96, 3) := by decide +kernel
theorem d_X_job_35 : decode b_X_job 35 = .ok (.pop, 1) := by decide +kernel
theorem d_X_job_36 : decode b_X_job 36 = .ok (.aload_n 0, 1) := by decide +kernel
theorem d_X_job_37 : decode b_X_job 37 = .ok (.getfield 19, 3) := by decide +kernel
theorem d_X_job_40 : decode b_X_job 40 = .ok (.invokevirtual 84, 3) := by decide +kernel
theorem d_X_job_43 : decode b_X_job 43 = .ok (.ireturn, 1) := by decide +kernel
theorem d_X_dropped_0 : decode b_X_dropped 0 = .ok (.iload_n 1, 1) := by decide +kernel
theorem d_X_dropped_1 : decode b_X_dropped 1 = .ok (.ifCond .lt 20, 3) := by decide +kernel
theorem d_X_dropped_21 : decode b_X_dropped 21 = .ok (.iconst (-1), 1) := by decide +kernel
theorem d_X_dropped_22 : decode b_X_dropped 22 = .ok (.ireturn, 1) := by decide +kernel
theorem d_X_dropped_4 : decode b_X_dropped 4 = .ok (.iload_n 1, 1) := by decide +kernel
theorem d_X_dropped_5 : decode b_X_dropped 5 = .ok (.aload_n 0, 1) := by decide +kernel
theorem d_X_dropped_6 : decode b_X_dropped 6 = .ok (.getfield 138, 3) := by decide +kernel
theorem d_X_dropped_9 : decode b_X_dropped 9 = .ok (.if_icmp .ge 12, 3) := by decide +kernel
theorem d_Row_at_0 : decode b_Row_at 0 = .ok (.iload_n 1, 1) := by decide +kernel
theorem d_Row_at_1 : decode b_Row_at 1 = .ok (.ifCond .lt 20, 3) := by decide +kernel
theorem d_Row_at_21 : decode b_Row_at 21 = .ok (.iconst (-1), 1) := by decide +kernel
theorem d_Row_at_22 : decode b_Row_at 22 = .ok (.ireturn, 1) := by decide +kernel
theorem d_Row_at_4 : decode b_Row_at 4 = .ok (.iload_n 1, 1) := by decide +kernel
theorem d_Row_at_5 : decode b_Row_at 5 = .ok (.aload_n 0, 1) := by decide +kernel
theorem d_Row_at_6 : decode b_Row_at 6 = .ok (.getfield 15, 3) := by decide +kernel
theorem d_Row_at_9 : decode b_Row_at 9 = .ok (.if_icmp .ge 12, 3) := by decide +kernel
theorem d_X_list_0 : decode b_X_list 0 = .ok (.aload_n 0, 1) := by decide +kernel
theorem d_X_list_1 : decode b_X_list 1 = .ok (.getfield 10, 3) := by decide +kernel
theorem d_X_list_4 : decode b_X_list 4 = .ok (.iload_n 1, 1) := by decide +kernel
theorem d_X_list_5 : decode b_X_list 5 = .ok (.invokevirtual 149, 3) := by decide +kernel
theorem d_X_list_8 : decode b_X_list 8 = .ok (.ireturn, 1) := by decide +kernel
