theorem d_X_reclaim_31 : decode b_X_reclaim 31 = .ok (.putfield 152, 3) := by decide +kernel
theorem d_X_reclaim_34 : decode b_X_reclaim 34 = .ok (.aload_n 0, 1) := by decide +kernel
theorem d_X_reclaim_35 : decode b_X_reclaim 35 = .ok (.aload_n 2, 1) := by decide +kernel
theorem d_X_reclaim_36 : decode b_X_reclaim 36 = .ok (.invokevirtual 77, 3) := by decide +kernel
theorem d_X_reclaim_39 : decode b_X_reclaim 39 = .ok (.iconst 1, 1) := by decide +kernel
theorem d_X_reclaim_40 : decode b_X_reclaim 40 = .ok (.ireturn, 1) := by decide +kernel
theorem d_X_reclaim_14 : decode b_X_reclaim 14 = .ok (.aload_n 2, 1) := by decide +kernel
theorem d_X_reclaim_15 : decode b_X_reclaim 15 = .ok (.getfield 64, 3) := by decide +kernel
theorem d_X_reclaim_18 : decode b_X_reclaim 18 = .ok (.iconst 4, 1) := by decide +kernel
theorem d_X_reclaim_19 : decode b_X_reclaim 19 = .ok (.if_icmp .eq 5, 3) := by decide +kernel
theorem d_X_reclaim_22 : decode b_X_reclaim 22 = .ok (.iconst 0, 1) := by decide +kernel
theorem d_X_reclaim_23 : decode b_X_reclaim 23 = .ok (.ireturn, 1) := by decide +kernel
theorem d_X_empty_0 : decode b_X_empty 0 = .ok (.aload_n 0, 1) := by decide +kernel
theorem d_X_empty_1 : decode b_X_empty 1 = .ok (.getfield 155, 3) := by decide +kernel
theorem d_X_empty_4 : decode b_X_empty 4 = .ok (.ifCond .eq 7, 3) := by decide +kernel
theorem d_X_empty_11 : decode b_X_empty 11 = .ok (.iconst 0, 1) := by decide +kernel
theorem d_X_empty_12 : decode b_X_empty 12 = .ok (.istore_n 2, 1) := by decide +kernel
theorem d_X_empty_13 : decode b_X_empty 13 = .ok (.aload_n 0, 1) := by decide +kernel
theorem d_X_empty_14 : decode b_X_empty 14 = .ok (.iload_n 1, 1) := by decide +kernel
theorem d_X_empty_15 : decode b_X_empty 15 = .ok (.putfield 155, 3) := by decide +kernel
theorem d_X_empty_18 : decode b_X_empty 18 = .ok (.iload_n 2, 1) := by decide +kernel
theorem d_X_empty_19 : decode b_X_empty 19 = .ok (.ireturn, 1) := by decide +kernel
theorem d_X_empty_7 : decode b_X_empty 7 = .ok (.iconst 1, 1) := by decide +kernel
theorem d_X_empty_8 : decode b_X_empty 8 = .ok (.goto 4, 3) := by decide +kernel
