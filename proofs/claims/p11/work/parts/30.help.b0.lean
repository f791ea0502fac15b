theorem d_Law_relative_0 : decode b_Law_relative 0 = .ok (.aload_n 3, 1) := by decide +kernel
theorem d_Law_relative_1 : decode b_Law_relative 1 = .ok (.iconst 0, 1) := by decide +kernel
theorem d_Law_relative_2 : decode b_Law_relative 2 = .ok (.aload_n 0, 1) := by decide +kernel
theorem d_Law_relative_3 : decode b_Law_relative 3 = .ok (.iload_n 1, 1) := by decide +kernel
theorem d_Law_relative_4 : decode b_Law_relative 4 = .ok (.iload_n 2, 1) := by decide +kernel
theorem d_Law_relative_5 : decode b_Law_relative 5 = .ok (.invokevirtual 7, 3) := by decide +kernel
theorem d_Law_relative_13 : decode b_Law_relative 13 = .ok (.astore 4, 2) := by decide +kernel
theorem d_Law_relative_15 : decode b_Law_relative 15 = .ok (.iconst 1, 1) := by decide +kernel
theorem d_Law_relative_16 : decode b_Law_relative 16 = .ok (.ireturn, 1) := by decide +kernel
theorem d_Law_relative_8 : decode b_Law_relative 8 = .ok (.i2l, 1) := by decide +kernel
theorem d_Law_relative_9 : decode b_Law_relative 9 = .ok (.lastore, 1) := by decide +kernel
theorem d_Law_relative_10 : decode b_Law_relative 10 = .ok (.goto 7, 3) := by decide +kernel
theorem d_Law_relative_17 : decode b_Law_relative 17 = .ok (.iconst 0, 1) := by decide +kernel
theorem d_Law_relative_18 : decode b_Law_relative 18 = .ok (.ireturn, 1) := by decide +kernel
theorem d_Law_make_0 : decode b_Law_make 0 = .ok (.aload_n 3, 1) := by decide +kernel
theorem d_Law_make_1 : decode b_Law_make 1 = .ok (.iconst 0, 1) := by decide +kernel
theorem d_Law_make_2 : decode b_Law_make 2 = .ok (.aload_n 0, 1) := by decide +kernel
theorem d_Law_make_3 : decode b_Law_make 3 = .ok (.iload_n 1, 1) := by decide +kernel
theorem d_Law_make_4 : decode b_Law_make 4 = .ok (.iload_n 2, 1) := by decide +kernel
theorem d_Law_make_5 : decode b_Law_make 5 = .ok (.invokevirtual 15, 3) := by decide +kernel
theorem d_Law_make_13 : decode b_Law_make 13 = .ok (.astore 4, 2) := by decide +kernel
theorem d_Law_make_15 : decode b_Law_make 15 = .ok (.iconst 1, 1) := by decide +kernel
theorem d_Law_make_16 : decode b_Law_make 16 = .ok (.ireturn, 1) := by decide +kernel
theorem d_Law_make_8 : decode b_Law_make 8 = .ok (.i2l, 1) := by decide +kernel
theorem d_Law_make_9 : decode b_Law_make 9 = .ok (.lastore, 1) := by decide +kernel
theorem d_Law_make_10 : decode b_Law_make 10 = .ok (.goto 7, 3) := by decide +kernel
theorem d_Law_make_17 : decode b_Law_make 17 = .ok (.iconst 0, 1) := by decide +kernel
theorem d_Law_make_18 : decode b_Law_make 18 = .ok (.ireturn, 1) := by decide +kernel
theorem d_Law_restart_0 : decode b_Law_restart 0 = .ok (.aload_n 3, 1) := by decide +kernel
theorem d_Law_restart_1 : decode b_Law_restart 1 = .ok (.iconst 0, 1) := by decide +kernel
theorem d_Law_restart_2 : decode b_Law_restart 2 = .ok (.aload_n 0, 1) := by decide +kernel
theorem d_Law_restart_3 : decode b_Law_restart 3 = .ok (.iload_n 1, 1) := by decide +kernel
theorem d_Law_restart_4 : decode b_Law_restart 4 = .ok (.iload_n 2, 1) := by decide +kernel
theorem d_Law_restart_5 : decode b_Law_restart 5 = .ok (.invokevirtual 22, 3) := by decide +kernel
theorem d_Law_restart_13 : decode b_Law_restart 13 = .ok (.astore 4, 2) := by decide +kernel
theorem d_Law_restart_15 : decode b_Law_restart 15 = .ok (.iconst 1, 1) := by decide +kernel
theorem d_Law_restart_16 : decode b_Law_restart 16 = .ok (.ireturn, 1) := by decide +kernel
theorem d_Law_restart_8 : decode b_Law_restart 8 = .ok (.i2l, 1) := by decide +kernel
theorem d_Law_restart_9 : decode b_Law_restart 9 = .ok (.lastore, 1) := by decide +kernel
theorem d_Law_restart_10 : decode b_Law_restart 10 = .ok (.goto 7, 3) := by decide +kernel
theorem d_Law_restart_17 : decode b_Law_restart 17 = .ok (.iconst 0, 1) := by decide +kernel
theorem d_Law_restart_18 : decode b_Law_restart 18 = .ok (.ireturn, 1) := by decide +kernel
theorem d_Law_end_0 : decode b_Law_end 0 = .ok (.aload 4, 2) := by decide +kernel
theorem d_Law_end_2 : decode b_Law_end 2 = .ok (.iconst 0, 1) := by decide +kernel
theorem d_Law_end_3 : decode b_Law_end 3 = .ok (.aload_n 0, 1) := by decide +kernel
theorem d_Law_end_4 : decode b_Law_end 4 = .ok (.iload_n 1, 1) := by decide +kernel
theorem d_Law_end_5 : decode b_Law_end 5 = .ok (.iload_n 2, 1) := by decide +kernel
theorem d_Law_end_6 : decode b_Law_end 6 = .ok (.iload_n 3, 1) := by decide +kernel
theorem d_Law_end_7 : decode b_Law_end 7 = .ok (.invokevirtual 18, 3) := by decide +kernel
theorem d_Law_end_15 : decode b_Law_end 15 = .ok (.astore 5, 2) := by decide +kernel
theorem d_Law_end_17 : decode b_Law_end 17 = .ok (.iconst 1, 1) := by decide +kernel
theorem d_Law_end_18 : decode b_Law_end 18 = .ok (.ireturn, 1) := by decide +kernel
theorem d_Law_end_10 : decode b_Law_end 10 = .ok (.i2l, 1) := by decide +kernel
theorem d_Law_end_11 : decode b_Law_end 11 = .ok (.lastore, 1) := by decide +kernel
theorem d_Law_end_12 : decode b_Law_end 12 = .ok (.goto 7, 3) := by decide +kernel
theorem d_Law_end_19 : decode b_Law_end 19 = .ok (.iconst 0, 1) := by decide +kernel
theorem d_Law_end_20 : decode b_Law_end 20 = .ok (.ireturn, 1) := by decide +kernel
