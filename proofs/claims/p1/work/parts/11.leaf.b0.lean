theorem d_AL_size_0 : decode b_AL_size 0 = .ok (.aload_n 0, 1) := by decide +kernel
theorem d_AL_size_1 : decode b_AL_size 1 = .ok (.getfield 48, 3) := by decide +kernel
theorem d_AL_size_4 : decode b_AL_size 4 = .ok (.ireturn, 1) := by decide +kernel
theorem d_X_isNumber_0 : decode b_X_isNumber 0 = .ok (.iload_n 0, 1) := by decide +kernel
theorem d_X_isNumber_1 : decode b_X_isNumber 1 = .ok (.iconst 1, 1) := by decide +kernel
theorem d_X_isNumber_2 : decode b_X_isNumber 2 = .ok (.if_icmp .lt 14, 3) := by decide +kernel
theorem d_X_isNumber_16 : decode b_X_isNumber 16 = .ok (.iconst 0, 1) := by decide +kernel
theorem d_X_isNumber_17 : decode b_X_isNumber 17 = .ok (.ireturn, 1) := by decide +kernel
theorem d_X_isNumber_5 : decode b_X_isNumber 5 = .ok (.iload_n 0, 1) := by decide +kernel
theorem d_X_isNumber_6 : decode b_X_isNumber 6 = .ok (.sipush 9999, 3) := by decide +kernel
theorem d_X_isNumber_9 : decode b_X_isNumber 9 = .ok (.if_icmp .gt 7, 3) := by decide +kernel
theorem d_X_isNumber_12 : decode b_X_isNumber 12 = .ok (.iconst 1, 1) := by decide +kernel
theorem d_X_isNumber_13 : decode b_X_isNumber 13 = .ok (.goto 4, 3) := by decide +kernel
theorem d_Gen_isDeferred_0 : decode b_Gen_isDeferred 0 = .ok (.aload_n 0, 1) := by decide +kernel
theorem d_Gen_isDeferred_1 : decode b_Gen_isDeferred 1 = .ok (.getfield 9, 3) := by decide +kernel
theorem d_Gen_isDeferred_4 : decode b_Gen_isDeferred 4 = .ok (.iconst 2, 1) := by decide +kernel
theorem d_Gen_isDeferred_5 : decode b_Gen_isDeferred 5 = .ok (.if_icmp .eq 11, 3) := by decide +kernel
theorem d_Gen_isDeferred_8 : decode b_Gen_isDeferred 8 = .ok (.aload_n 0, 1) := by decide +kernel
theorem d_Gen_isDeferred_9 : decode b_Gen_isDeferred 9 = .ok (.getfield 9, 3) := by decide +kernel
theorem d_Gen_isDeferred_12 : decode b_Gen_isDeferred 12 = .ok (.iconst 3, 1) := by decide +kernel
theorem d_Gen_isDeferred_13 : decode b_Gen_isDeferred 13 = .ok (.if_icmp .ne 7, 3) := by decide +kernel
theorem d_Gen_isDeferred_20 : decode b_Gen_isDeferred 20 = .ok (.iconst 0, 1) := by decide +kernel
theorem d_Gen_isDeferred_21 : decode b_Gen_isDeferred 21 = .ok (.ireturn, 1) := by decide +kernel
theorem d_Gen_beginAnew_0 : decode b_Gen_beginAnew 0 = .ok (.aload_n 0, 1) := by decide +kernel
theorem d_Gen_beginAnew_1 : decode b_Gen_beginAnew 1 = .ok (.iload_n 1, 1) := by decide +kernel
theorem d_Gen_beginAnew_2 : decode b_Gen_beginAnew 2 = .ok (.putfield 15, 3) := by decide +kernel
theorem d_Gen_beginAnew_5 : decode b_Gen_beginAnew 5 = .ok (.aload_n 0, 1) := by decide +kernel
theorem d_Gen_beginAnew_6 : decode b_Gen_beginAnew 6 = .ok (.iconst 0, 1) := by decide +kernel
theorem d_Gen_beginAnew_7 : decode b_Gen_beginAnew 7 = .ok (.putfield 21, 3) := by decide +kernel
theorem d_Gen_beginAnew_10 : decode b_Gen_beginAnew 10 = .ok (.aload_n 0, 1) := by decide +kernel
theorem d_Gen_beginAnew_11 : decode b_Gen_beginAnew 11 = .ok (.iconst 0, 1) := by decide +kernel
theorem d_Gen_beginAnew_12 : decode b_Gen_beginAnew 12 = .ok (.putfield 24, 3) := by decide +kernel
theorem d_Gen_beginAnew_15 : decode b_Gen_beginAnew 15 = .ok (.return_, 1) := by decide +kernel
theorem d_X_find_0 : decode b_X_find 0 = .ok (.iconst 0, 1) := by decide +kernel
theorem d_X_find_1 : decode b_X_find 1 = .ok (.istore_n 2, 1) := by decide +kernel
theorem d_X_find_2 : decode b_X_find 2 = .ok (.iload_n 2, 1) := by decide +kernel
theorem d_X_find_3 : decode b_X_find 3 = .ok (.aload_n 0, 1) := by decide +kernel
theorem d_X_find_4 : decode b_X_find 4 = .ok (.getfield 23, 3) := by decide +kernel
theorem d_X_find_7 : decode b_X_find 7 = .ok (.invokevirtual 84, 3) := by decide +kernel
theorem d_X_find_10 : decode b_X_find 10 = .ok (.if_icmp .ge 31, 3) := by decide +kernel
theorem d_X_find_41 : decode b_X_find 41 = .ok (.aload_n 0, 1) := by decide +kernel
theorem d_X_find_42 : decode b_X_find 42 = .ok (.getfield 31, 3) := by decide +kernel
theorem d_X_find_45 : decode b_X_find 45 = .ok (.areturn, 1) := by decide +kernel
theorem d_X_howManyAre_0 : decode b_X_howManyAre 0 = .ok (.iconst 0, 1) := by decide +kernel
theorem d_X_howManyAre_1 : decode b_X_howManyAre 1 = .ok (.istore_n 2, 1) := by decide +kernel
theorem d_X_howManyAre_2 : decode b_X_howManyAre 2 = .ok (.iconst 0, 1) := by decide +kernel
theorem d_X_howManyAre_3 : decode b_X_howManyAre 3 = .ok (.istore_n 3, 1) := by decide +kernel
theorem d_X_howManyAre_4 : decode b_X_howManyAre 4 = .ok (.iload_n 3, 1) := by decide +kernel
theorem d_X_howManyAre_5 : decode b_X_howManyAre 5 = .ok (.aload_n 0, 1) := by decide +kernel
theorem d_X_howManyAre_6 : decode b_X_howManyAre 6 = .ok (.getfield 23, 3) := by decide +kernel
theorem d_X_howManyAre_9 : decode b_X_howManyAre 9 = .ok (.invokevirtual 84, 3) := by decide +kernel
theorem d_X_howManyAre_12 : decode b_X_howManyAre 12 = .ok (.if_icmp .ge 30, 3) := by decide +kernel
theorem d_X_howManyAre_42 : decode b_X_howManyAre 42 = .ok (.iload_n 2, 1) := by decide +kernel
theorem d_X_howManyAre_43 : decode b_X_howManyAre 43 = .ok (.ireturn, 1) := by decide +kernel
theorem d_X_jobThatMakes_0 : decode b_X_jobThatMakes 0 = .ok (.iconst 0, 1) := by decide +kernel
theorem d_X_jobThatMakes_1 : decode b_X_jobThatMakes 1 = .ok (.istore_n 1, 1) := by decide +kernel
theorem d_X_jobThatMakes_2 : decode b_X_jobThatMakes 2 = .ok (.iload_n 1, 1) := by decide +kernel
theorem d_X_jobThatMakes_3 : decode b_X_jobThatMakes 3 = .ok (.aload_n 0, 1) := by decide +kernel
theorem d_X_jobThatMakes_4 : decode b_X_jobThatMakes 4 = .ok (.getfield 23, 3) := by decide +kernel
theorem d_X_jobThatMakes_7 : decode b_X_jobThatMakes 7 = .ok (.invokevirtual 84, 3) := by decide +kernel
theorem d_X_jobThatMakes_10 : decode b_X_jobThatMakes 10 = .ok (.if_icmp .ge 34, 3) := by decide +kernel
theorem d_X_jobThatMakes_44 : decode b_X_jobThatMakes 44 = .ok (.iconst 0, 1) := by decide +kernel
theorem d_X_jobThatMakes_45 : decode b_X_jobThatMakes 45 = .ok (.ireturn, 1) := by decide +kernel
