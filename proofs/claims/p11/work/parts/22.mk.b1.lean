theorem d_X_end_68 : decode b_X_end 68 = .ok (.aload 5, 2) := by decide +kernel
theorem d_X_end_70 : decode b_X_end 70 = .ok (.invokevirtual 77, 3) := by decide +kernel
theorem d_X_end_73 : decode b_X_end 73 = .ok (.iconst 1, 1) := by decide +kernel
theorem d_X_end_74 : decode b_X_end 74 = .ok (.ireturn, 1) := by decide +kernel
theorem d_X_end_49 : decode b_X_end 49 = .ok (.aload 5, 2) := by decide +kernel
theorem d_X_end_51 : decode b_X_end 51 = .ok (.iconst 3, 1) := by decide +kernel
theorem d_X_end_52 : decode b_X_end 52 = .ok (.putfield 64, 3) := by decide +kernel
theorem d_X_end_55 : decode b_X_end 55 = .ok (.aload 5, 2) := by decide +kernel
theorem d_X_end_57 : decode b_X_end 57 = .ok (.aload 4, 2) := by decide +kernel
theorem d_X_end_59 : decode b_X_end 59 = .ok (.getfield 132, 3) := by decide +kernel
theorem d_X_end_62 : decode b_X_end 62 = .ok (.putfield 135, 3) := by decide +kernel
theorem d_X_end_65 : decode b_X_end 65 = .ok (.iconst 0, 1) := by decide +kernel
theorem d_X_end_66 : decode b_X_end 66 = .ok (.ireturn, 1) := by decide +kernel
theorem d_X_restart_0 : decode b_X_restart 0 = .ok (.aload_n 0, 1) := by decide +kernel
theorem d_X_restart_1 : decode b_X_restart 1 = .ok (.iload_n 1, 1) := by decide +kernel
theorem d_X_restart_2 : decode b_X_restart 2 = .ok (.invokevirtual 100, 3) := by decide +kernel
theorem d_X_restart_5 : decode b_X_restart 5 = .ok (.astore_n 3, 1) := by decide +kernel
theorem d_X_restart_6 : decode b_X_restart 6 = .ok (.aload_n 0, 1) := by decide +kernel
theorem d_X_restart_7 : decode b_X_restart 7 = .ok (.iload_n 1, 1) := by decide +kernel
theorem d_X_restart_8 : decode b_X_restart 8 = .ok (.invokevirtual 126, 3) := by decide +kernel
theorem d_X_restart_11 : decode b_X_restart 11 = .ok (.ifCond .ne 18, 3) := by decide +kernel
theorem d_X_restart_29 : decode b_X_restart 29 = .ok (.iconst (-1), 1) := by decide +kernel
theorem d_X_restart_30 : decode b_X_restart 30 = .ok (.ireturn, 1) := by decide +kernel
theorem d_X_restart_14 : decode b_X_restart 14 = .ok (.iload_n 2, 1) := by decide +kernel
theorem d_X_restart_15 : decode b_X_restart 15 = .ok (.iconst 1, 1) := by decide +kernel
theorem d_X_restart_16 : decode b_X_restart 16 = .ok (.if_icmp .lt 13, 3) := by decide +kernel
theorem d_X_restart_19 : decode b_X_restart 19 = .ok (.iload_n 2, 1) := by decide +kernel
theorem d_X_restart_20 : decode b_X_restart 20 = .ok (.aload_n 3, 1) := by decide +kernel
theorem d_X_restart_21 : decode b_X_restart 21 = .ok (.getfield 132, 3) := by decide +kernel
theorem d_X_restart_24 : decode b_X_restart 24 = .ok (.iconst 1, 1) := by decide +kernel
theorem d_X_restart_25 : decode b_X_restart 25 = .ok (.iadd, 1) := by decide +kernel
theorem d_X_restart_26 : decode b_X_restart 26 = .ok (.if_icmp .le 5, 3) := by decide +kernel
theorem d_X_restart_31 : decode b_X_restart 31 = .ok (.iconst 0, 1) := by decide +kernel
theorem d_X_restart_32 : decode b_X_restart 32 = .ok (.istore 4, 2) := by decide +kernel
theorem d_X_restart_34 : decode b_X_restart 34 = .ok (.iconst 0, 1) := by decide +kernel
theorem d_X_restart_35 : decode b_X_restart 35 = .ok (.istore 5, 2) := by decide +kernel
theorem d_X_restart_37 : decode b_X_restart 37 = .ok (.iload 5, 2) := by decide +kernel
theorem d_X_restart_39 : decode b_X_restart 39 = .ok (.aload_n 0, 1) := by decide +kernel
theorem d_X_restart_40 : decode b_X_restart 40 = .ok (.getfield 23, 3) := by decide +kernel
theorem d_X_restart_43 : decode b_X_restart 43 = .ok (.invokevirtual 84, 3) := by decide +kernel
theorem d_X_restart_46 : decode b_X_restart 46 = .ok (.if_icmp .ge 42, 3) := by decide +kernel
theorem d_X_restart_88 : decode b_X_restart 88 = .ok (.iload 4, 2) := by decide +kernel
theorem d_X_restart_90 : decode b_X_restart 90 = .ok (.ireturn, 1) := by decide +kernel
theorem d_X_restart_49 : decode b_X_restart 49 = .ok (.aload_n 0, 1) := by decide +kernel
theorem d_X_restart_50 : decode b_X_restart 50 = .ok (.getfield 23, 3) := by decide +kernel
theorem d_X_restart_53 : decode b_X_restart 53 = .ok (.iload 5, 2) := by decide +kernel
theorem d_X_restart_55 : decode b_X_restart 55 = .ok (.invokevirtual 141, 3) := by decide +kernel
theorem d_X_restart_58 : decode b_X_restart 58 = .ok (.checkcast 26, 3) := by decide +kernel
theorem d_X_restart_61 : decode b_X_restart 61 = .ok (.astore 6, 2) := by decide +kernel
theorem d_X_restart_63 : decode b_X_restart 63 = .ok (.aload 6, 2) := by decide +kernel
theorem d_X_restart_65 : decode b_X_restart 65 = .ok (.iload_n 1, 1) := by decide +kernel
theorem d_X_restart_66 : decode b_X_restart 66 = .ok (.iload_n 2, 1) := by decide +kernel
theorem d_X_restart_67 : decode b_X_restart 67 = .ok (.invokevirtual 145, 3) := by decide +kernel
theorem d_X_restart_70 : decode b_X_restart 70 = .ok (.ifCond .eq 12, 3) := by decide +kernel
theorem d_X_restart_82 : decode b_X_restart 82 = .ok (.iinc 5 1, 3) := by decide +kernel
theorem d_X_restart_85 : decode b_X_restart 85 = .ok (.goto (-48), 3) := by decide +kernel
theorem d_X_restart_73 : decode b_X_restart 73 = .ok (.aload 6, 2) := by decide +kernel
theorem d_X_restart_75 : decode b_X_restart 75 = .ok (.iconst 2, 1) := by decide +kernel
theorem d_X_restart_76 : decode b_X_restart 76 = .ok (.putfield 64, 3) := by decide +kernel
theorem d_X_restart_79 : decode b_X_restart 79 = .ok (.iinc 4 1, 3) := by decide +kernel
