theorem d_Mo_enter_40 : decode b_Mo_enter 40 = .ok (.getfield 53, 3) := by decide +kernel
theorem d_Mo_enter_43 : decode b_Mo_enter 43 = .ok (.istore_n 3, 1) := by decide +kernel
theorem d_Mo_enter_44 : decode b_Mo_enter 44 = .ok (.iload_n 3, 1) := by decide +kernel
theorem d_Mo_enter_45 : decode b_Mo_enter 45 = .ok (.iload_n 2, 1) := by decide +kernel
theorem d_Mo_enter_46 : decode b_Mo_enter 46 = .ok (.if_icmp .le 23, 3) := by decide +kernel
theorem d_Mo_enter_69 : decode b_Mo_enter 69 = .ok (.aload_n 0, 1) := by decide +kernel
theorem d_Mo_enter_70 : decode b_Mo_enter 70 = .ok (.getfield 13, 3) := by decide +kernel
theorem d_Mo_enter_73 : decode b_Mo_enter 73 = .ok (.iload_n 2, 1) := by decide +kernel
theorem d_Mo_enter_74 : decode b_Mo_enter 74 = .ok (.iload_n 1, 1) := by decide +kernel
theorem d_Mo_enter_75 : decode b_Mo_enter 75 = .ok (.iastore, 1) := by decide +kernel
theorem d_Mo_enter_76 : decode b_Mo_enter 76 = .ok (.aload_n 0, 1) := by decide +kernel
theorem d_Mo_enter_77 : decode b_Mo_enter 77 = .ok (.dup, 1) := by decide +kernel
theorem d_Mo_enter_78 : decode b_Mo_enter 78 = .ok (.getfield 53, 3) := by decide +kernel
theorem d_Mo_enter_81 : decode b_Mo_enter 81 = .ok (.iconst 1, 1) := by decide +kernel
theorem d_Mo_enter_82 : decode b_Mo_enter 82 = .ok (.iadd, 1) := by decide +kernel
theorem d_Mo_enter_83 : decode b_Mo_enter 83 = .ok (.putfield 53, 3) := by decide +kernel
theorem d_Mo_enter_86 : decode b_Mo_enter 86 = .ok (.aload_n 0, 1) := by decide +kernel
theorem d_Mo_enter_87 : decode b_Mo_enter 87 = .ok (.iload_n 1, 1) := by decide +kernel
theorem d_Mo_enter_88 : decode b_Mo_enter 88 = .ok (.iconst 1, 1) := by decide +kernel
theorem d_Mo_enter_89 : decode b_Mo_enter 89 = .ok (.invokevirtual 60, 3) := by decide +kernel
theorem d_Mo_enter_92 : decode b_Mo_enter 92 = .ok (.aload_n 0, 1) := by decide +kernel
theorem d_Mo_enter_93 : decode b_Mo_enter 93 = .ok (.getfield 53, 3) := by decide +kernel
theorem d_Mo_enter_96 : decode b_Mo_enter 96 = .ok (.aload_n 0, 1) := by decide +kernel
theorem d_Mo_enter_97 : decode b_Mo_enter 97 = .ok (.getfield 31, 3) := by decide +kernel
theorem d_Mo_enter_100 : decode b_Mo_enter 100 = .ok (.if_icmp .gt 4, 3) := by decide +kernel
theorem d_Mo_enter_103 : decode b_Mo_enter 103 = .ok (.return_, 1) := by decide +kernel
theorem d_Mo_catalogue_0 : decode b_Mo_catalogue 0 = .ok (.aload_n 0, 1) := by decide +kernel
theorem d_Mo_catalogue_1 : decode b_Mo_catalogue 1 = .ok (.iconst 0, 1) := by decide +kernel
theorem d_Mo_catalogue_2 : decode b_Mo_catalogue 2 = .ok (.putfield 39, 3) := by decide +kernel
theorem d_Mo_catalogue_5 : decode b_Mo_catalogue 5 = .ok (.iload_n 1, 1) := by decide +kernel
theorem d_Mo_catalogue_6 : decode b_Mo_catalogue 6 = .ok (.invokestatic 70, 3) := by decide +kernel
theorem d_Mo_catalogue_9 : decode b_Mo_catalogue 9 = .ok (.ifCond .eq 20, 3) := by decide +kernel
theorem d_Mo_catalogue_29 : decode b_Mo_catalogue 29 = .ok (.iconst (-1), 1) := by decide +kernel
theorem d_Mo_catalogue_30 : decode b_Mo_catalogue 30 = .ok (.ireturn, 1) := by decide +kernel
theorem d_Mo_catalogue_12 : decode b_Mo_catalogue 12 = .ok (.aload_n 0, 1) := by decide +kernel
theorem d_Mo_catalogue_13 : decode b_Mo_catalogue 13 = .ok (.iload_n 1, 1) := by decide +kernel
theorem d_Mo_catalogue_14 : decode b_Mo_catalogue 14 = .ok (.invokevirtual 74, 3) := by decide +kernel
theorem d_Mo_catalogue_17 : decode b_Mo_catalogue 17 = .ok (.ifCond .eq 14, 3) := by decide +kernel
theorem d_Mo_catalogue_31 : decode b_Mo_catalogue 31 = .ok (.aload_n 0, 1) := by decide +kernel
theorem d_Mo_catalogue_32 : decode b_Mo_catalogue 32 = .ok (.iload_n 1, 1) := by decide +kernel
theorem d_Mo_catalogue_33 : decode b_Mo_catalogue 33 = .ok (.invokevirtual 77, 3) := by decide +kernel
theorem d_Mo_catalogue_36 : decode b_Mo_catalogue 36 = .ok (.aload_n 0, 1) := by decide +kernel
theorem d_Mo_catalogue_37 : decode b_Mo_catalogue 37 = .ok (.getfield 53, 3) := by decide +kernel
theorem d_Mo_catalogue_40 : decode b_Mo_catalogue 40 = .ok (.ireturn, 1) := by decide +kernel
