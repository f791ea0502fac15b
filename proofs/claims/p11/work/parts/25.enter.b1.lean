theorem d_Mo_enter_62 : decode b_Mo_enter 62 = .ok (.iastore, 1) := by decide +kernel
theorem d_Mo_enter_63 : decode b_Mo_enter 63 = .ok (.iinc 3 (-1), 3) := by decide +kernel
theorem d_Mo_enter_66 : decode b_Mo_enter 66 = .ok (.goto (-22), 3) := by decide +kernel
theorem d_Mo_enter_12 : decode b_Mo_enter 12 = .ok (.aload_n 0, 1) := by decide +kernel
theorem d_Mo_enter_13 : decode b_Mo_enter 13 = .ok (.getfield 13, 3) := by decide +kernel
theorem d_Mo_enter_16 : decode b_Mo_enter 16 = .ok (.iload_n 3, 1) := by decide +kernel
theorem d_Mo_enter_17 : decode b_Mo_enter 17 = .ok (.iaload, 1) := by decide +kernel
theorem d_Mo_enter_18 : decode b_Mo_enter 18 = .ok (.iload_n 1, 1) := by decide +kernel
theorem d_Mo_enter_19 : decode b_Mo_enter 19 = .ok (.invokestatic 56, 3) := by decide +kernel
theorem d_Mo_enter_22 : decode b_Mo_enter 22 = .ok (.ifCond .eq 9, 3) := by decide +kernel
theorem d_Mo_enter_31 : decode b_Mo_enter 31 = .ok (.iload_n 2, 1) := by decide +kernel
theorem d_Mo_enter_32 : decode b_Mo_enter 32 = .ok (.istore_n 2, 1) := by decide +kernel
theorem d_Mo_enter_33 : decode b_Mo_enter 33 = .ok (.iinc 3 1, 3) := by decide +kernel
theorem d_Mo_enter_36 : decode b_Mo_enter 36 = .ok (.goto (-32), 3) := by decide +kernel
theorem d_Mo_enter_25 : decode b_Mo_enter 25 = .ok (.iload_n 3, 1) := by decide +kernel
theorem d_Mo_enter_26 : decode b_Mo_enter 26 = .ok (.iconst 1, 1) := by decide +kernel
theorem d_Mo_enter_27 : decode b_Mo_enter 27 = .ok (.iadd, 1) := by decide +kernel
theorem d_Mo_enter_28 : decode b_Mo_enter 28 = .ok (.goto 4, 3) := by decide +kernel
theorem d_Mo_catalogue_0 : decode b_Mo_catalogue 0 = .ok (.aload_n 0, 1) := by decide +kernel
theorem d_Mo_catalogue_1 : decode b_Mo_catalogue 1 = .ok (.iconst 0, 1) := by decide +kernel
theorem d_Mo_catalogue_2 : decode b_Mo_catalogue 2 = .ok (.putfield 39, 3) := by decide +kernel
theorem d_Mo_catalogue_5 : decode b_Mo_catalogue 5 = .ok (.iload_n 1, 1) := by decide +kernel
theorem d_Mo_catalogue_6 : decode b_Mo_catalogue 6 = .ok (.invokestatic 70, 3) := by decide +kernel
theorem d_Mo_catalogue_9 : decode b_Mo_catalogue 9 = .ok (.ifCond .eq 20, 3) := by decide +kernel
theorem d_Mo_catalogue_29 : decode b_Mo_catalogue 29 = .ok (.iconst (-1), 1) := by decide +kernel
theorem d_Mo_catalogue_30 : decode b_Mo_catalogue 30 = .ok (.ireturn, 1) := by decide +kernel
theorem d_Mo_catalogue_12 : decode b_Mo_catalogue 12 = .ok (.aload_n 0, 1) := by decide +kernel
theorem d_Mo_catalogue_13 : decode b_Mo_catalogue 13 = .ok (.iload_n 1, 1) := by decide +kernel
theorem d_Mo_catalogue_14 : decode b_Mo_catalogue 14 = .ok (.invokevirtual 74, 3) := by decide +kernel
theorem d_Mo_catalogue_17 : decode b_Mo_catalogue 17 = .ok (.ifCond .eq 14, 3) := by decide +kernel
theorem d_Mo_catalogue_31 : decode b_Mo_catalogue 31 = .ok (.aload_n 0, 1) := by decide +kernel
theorem d_Mo_catalogue_32 : decode b_Mo_catalogue 32 = .ok (.iload_n 1, 1) := by decide +kernel
theorem d_Mo_catalogue_33 : decode b_Mo_catalogue 33 = .ok (.invokevirtual 77, 3) := by decide +kernel
theorem d_Mo_catalogue_36 : decode b_Mo_catalogue 36 = .ok (.aload_n 0, 1) := by decide +kernel
theorem d_Mo_catalogue_37 : decode b_Mo_catalogue 37 = .ok (.getfield 53, 3) := by decide +kernel
theorem d_Mo_catalogue_40 : decode b_Mo_catalogue 40 = .ok (.ireturn, 1) := by decide +kernel
theorem d_Mo_catalogue_20 : decode b_Mo_catalogue 20 = .ok (.aload_n 0, 1) := by decide +kernel
theorem d_Mo_catalogue_21 : decode b_Mo_catalogue 21 = .ok (.iload_n 1, 1) := by decide +kernel
theorem d_Mo_catalogue_22 : decode b_Mo_catalogue 22 = .ok (.invokevirtual 74, 3) := by decide +kernel
theorem d_Mo_catalogue_25 : decode b_Mo_catalogue 25 = .ok (.iconst 4, 1) := by decide +kernel
theorem d_Mo_catalogue_26 : decode b_Mo_catalogue 26 = .ok (.if_icmp .eq 5, 3) := by decide +kernel
