theorem d_X_relative_0 : decode b_X_relative 0 = .ok (.aload_n 0, 1) := by decide +kernel
theorem d_X_relative_1 : decode b_X_relative 1 = .ok (.iload_n 1, 1) := by decide +kernel
theorem d_X_relative_2 : decode b_X_relative 2 = .ok (.invokevirtual 100, 3) := by decide +kernel
theorem d_X_relative_5 : decode b_X_relative 5 = .ok (.astore_n 3, 1) := by decide +kernel
theorem d_X_relative_6 : decode b_X_relative 6 = .ok (.iload_n 2, 1) := by decide +kernel
theorem d_X_relative_7 : decode b_X_relative 7 = .ok (.bipush 99, 2) := by decide +kernel
theorem d_X_relative_9 : decode b_X_relative 9 = .ok (.if_icmp .le 13, 3) := by decide +kernel
theorem d_X_relative_22 : decode b_X_relative 22 = .ok (.iload_n 2, 1) := by decide +kernel
theorem d_X_relative_23 : decode b_X_relative 23 = .ok (.ifCond .le 30, 3) := by decide +kernel
theorem d_X_relative_53 : decode b_X_relative 53 = .ok (.aload_n 3, 1) := by decide +kernel
theorem d_X_relative_54 : decode b_X_relative 54 = .ok (.iload_n 2, 1) := by decide +kernel
theorem d_X_relative_55 : decode b_X_relative 55 = .ok (.invokevirtual 118, 3) := by decide +kernel
theorem d_X_relative_58 : decode b_X_relative 58 = .ok (.istore 4, 2) := by decide +kernel
theorem d_X_relative_60 : decode b_X_relative 60 = .ok (.aload_n 0, 1) := by decide +kernel
theorem d_X_relative_61 : decode b_X_relative 61 = .ok (.iload 4, 2) := by decide +kernel
theorem d_X_relative_63 : decode b_X_relative 63 = .ok (.invokevirtual 60, 3) := by decide +kernel
theorem d_X_relative_66 : decode b_X_relative 66 = .ok (.getfield 64, 3) := by decide +kernel
theorem d_X_relative_69 : decode b_X_relative 69 = .ok (.iconst 1, 1) := by decide +kernel
theorem d_X_relative_70 : decode b_X_relative 70 = .ok (.if_icmp .ne 8, 3) := by decide +kernel
theorem d_X_relative_78 : decode b_X_relative 78 = .ok (.iconst (-1), 1) := by decide +kernel
theorem d_X_relative_79 : decode b_X_relative 79 = .ok (.ireturn, 1) := by decide +kernel
theorem d_X_relative_73 : decode b_X_relative 73 = .ok (.iload 4, 2) := by decide +kernel
theorem d_X_relative_75 : decode b_X_relative 75 = .ok (.goto 4, 3) := by decide +kernel
theorem d_X_relative_26 : decode b_X_relative 26 = .ok (.aload_n 3, 1) := by decide +kernel
theorem d_X_relative_27 : decode b_X_relative 27 = .ok (.iload_n 2, 1) := by decide +kernel
theorem d_X_relative_28 : decode b_X_relative 28 = .ok (.invokevirtual 111, 3) := by decide +kernel
theorem d_X_relative_31 : decode b_X_relative 31 = .ok (.istore 4, 2) := by decide +kernel
theorem d_X_relative_33 : decode b_X_relative 33 = .ok (.aload_n 0, 1) := by decide +kernel
theorem d_X_relative_34 : decode b_X_relative 34 = .ok (.iload 4, 2) := by decide +kernel
theorem d_X_relative_36 : decode b_X_relative 36 = .ok (.invokevirtual 60, 3) := by decide +kernel
theorem d_X_relative_39 : decode b_X_relative 39 = .ok (.iload_n 1, 1) := by decide +kernel
theorem d_X_relative_40 : decode b_X_relative 40 = .ok (.invokevirtual 115, 3) := by decide +kernel
theorem d_X_relative_43 : decode b_X_relative 43 = .ok (.ifCond .eq 8, 3) := by decide +kernel
theorem d_X_relative_51 : decode b_X_relative 51 = .ok (.iconst (-1), 1) := by decide +kernel
theorem d_X_relative_52 : decode b_X_relative 52 = .ok (.ireturn, 1) := by decide +kernel
theorem d_X_relative_46 : decode b_X_relative 46 = .ok (.iload 4, 2) := by decide +kernel
theorem d_X_relative_48 : decode b_X_relative 48 = .ok (.goto 4, 3) := by decide +kernel
theorem d_X_relative_12 : decode b_X_relative 12 = .ok (.new 104, 3) := by decide +kernel
theorem d_X_relative_15 : decode b_X_relative 15 = .ok (.dup, 1) := by decide +kernel
theorem d_X_relative_16 : decode b_X_relative 16 = .ok (.ldc 106, 2) := by decide +kernel
theorem d_X_relative_18 : decode b_X_relative 18 = .ok (.invokespecial 108, 3) := by decide +kernel
theorem d_X_relative_21 : decode b_X_relative 21 = .ok (.athrow, 1) := by decide +kernel
theorem d_X_make_0 : decode b_X_make 0 = .ok (.aload_n 0, 1) := by decide +kernel
theorem d_X_make_1 : decode b_X_make 1 = .ok (.iload_n 1, 1) := by decide +kernel
theorem d_X_make_2 : decode b_X_make 2 = .ok (.invokevirtual 100, 3) := by decide +kernel
theorem d_X_make_5 : decode b_X_make 5 = .ok (.astore_n 3, 1) := by decide +kernel
theorem d_X_make_6 : decode b_X_make 6 = .ok (.iload_n 2, 1) := by decide +kernel
theorem d_X_make_7 : decode b_X_make 7 = .ok (.iconst 1, 1) := by decide +kernel
theorem d_X_make_8 : decode b_X_make 8 = .ok (.if_icmp .lt 9, 3) := by decide +kernel
theorem d_X_make_17 : decode b_X_make 17 = .ok (.new 104, 3) := by decide +kernel
theorem d_X_make_20 : decode b_X_make 20 = .ok (.dup, 1) := by decide +kernel
theorem d_X_make_21 : decode b_X_make 21 = .ok (.ldc 121, 2) := by decide +kernel
theorem d_X_make_23 : decode b_X_make 23 = .ok (.invokespecial 108, 3) := by decide +kernel
theorem d_X_make_26 : decode b_X_make 26 = .ok (.athrow, 1) := by decide +kernel
theorem d_X_make_11 : decode b_X_make 11 = .ok (.iload_n 2, 1) := by decide +kernel
theorem d_X_make_12 : decode b_X_make 12 = .ok (.bipush 99, 2) := by decide +kernel
theorem d_X_make_14 : decode b_X_make 14 = .ok (.if_icmp .le 13, 3) := by decide +kernel
theorem d_X_make_27 : decode b_X_make 27 = .ok (.aload_n 3, 1) := by decide +kernel
theorem d_X_make_28 : decode b_X_make 28 = .ok (.iload_n 2, 1) := by decide +kernel
theorem d_X_make_29 : decode b_X_make 29 = .ok (.invokevirtual 111, 3) := by decide +kernel
theorem d_X_make_32 : decode b_X_make 32 = .ok (.istore 4, 2) := by decide +kernel
theorem d_X_make_34 : decode b_X_make 34 = .ok (.aload_n 0, 1) := by decide +kernel
theorem d_X_make_35 : decode b_X_make 35 = .ok (.iload 4, 2) := by decide +kernel
theorem d_X_make_37 : decode b_X_make 37 = .ok (.invokevirtual 60, 3) := by decide +kernel
theorem d_X_make_40 : decode b_X_make 40 = .ok (.astore 5, 2) := by decide +kernel
theorem d_X_make_42 : decode b_X_make 42 = .ok (.aload 5, 2) := by decide +kernel
theorem d_X_make_44 : decode b_X_make 44 = .ok (.iload_n 1, 1) := by decide +kernel
theorem d_X_make_45 : decode b_X_make 45 = .ok (.invokevirtual 115, 3) := by decide +kernel
theorem d_X_make_48 : decode b_X_make 48 = .ok (.ifCond .eq 6, 3) := by decide +kernel
theorem d_X_make_54 : decode b_X_make 54 = .ok (.aload 5, 2) := by decide +kernel
theorem d_X_make_56 : decode b_X_make 56 = .ok (.iload_n 1, 1) := by decide +kernel
theorem d_X_make_57 : decode b_X_make 57 = .ok (.invokevirtual 123, 3) := by decide +kernel
theorem d_X_make_60 : decode b_X_make 60 = .ok (.ifCond .ne 11, 3) := by decide +kernel
theorem d_X_make_71 : decode b_X_make 71 = .ok (.iconst (-1), 1) := by decide +kernel
theorem d_X_make_72 : decode b_X_make 72 = .ok (.ireturn, 1) := by decide +kernel
theorem d_X_make_63 : decode b_X_make 63 = .ok (.aload_n 0, 1) := by decide +kernel
theorem d_X_make_64 : decode b_X_make 64 = .ok (.iload_n 1, 1) := by decide +kernel
theorem d_X_make_65 : decode b_X_make 65 = .ok (.invokevirtual 126, 3) := by decide +kernel
theorem d_X_make_68 : decode b_X_make 68 = .ok (.ifCond .eq 5, 3) := by decide +kernel
theorem d_X_make_73 : decode b_X_make 73 = .ok (.aload_n 0, 1) := by decide +kernel
theorem d_X_make_74 : decode b_X_make 74 = .ok (.iload 4, 2) := by decide +kernel
theorem d_X_make_76 : decode b_X_make 76 = .ok (.invokevirtual 71, 3) := by decide +kernel
theorem d_X_make_79 : decode b_X_make 79 = .ok (.astore 6, 2) := by decide +kernel
theorem d_X_make_81 : decode b_X_make 81 = .ok (.aload 6, 2) := by decide +kernel
theorem d_X_make_83 : decode b_X_make 83 = .ok (.iload_n 1, 1) := by decide +kernel
theorem d_X_make_84 : decode b_X_make 84 = .ok (.invokevirtual 74, 3) := by decide +kernel
theorem d_X_make_87 : decode b_X_make 87 = .ok (.aload 6, 2) := by decide +kernel
theorem d_X_make_89 : decode b_X_make 89 = .ok (.iconst 2, 1) := by decide +kernel
theorem d_X_make_90 : decode b_X_make 90 = .ok (.putfield 64, 3) := by decide +kernel
theorem d_X_make_93 : decode b_X_make 93 = .ok (.iload 4, 2) := by decide +kernel
theorem d_X_make_95 : decode b_X_make 95 = .ok (.ireturn, 1) := by decide +kernel
theorem d_X_make_51 : decode b_X_make 51 = .ok (.iload 4, 2) := by decide +kernel
theorem d_X_make_53 : decode b_X_make 53 = .ok (.ireturn, 1) := by decide +kernel
theorem d_X_end_0 : decode b_X_end 0 = .ok (.aload_n 0, 1) := by decide +kernel
theorem d_X_end_1 : decode b_X_end 1 = .ok (.iload_n 1, 1) := by decide +kernel
theorem d_X_end_2 : decode b_X_end 2 = .ok (.invokevirtual 100, 3) := by decide +kernel
theorem d_X_end_5 : decode b_X_end 5 = .ok (.astore 4, 2) := by decide +kernel
theorem d_X_end_7 : decode b_X_end 7 = .ok (.aload_n 0, 1) := by decide +kernel
theorem d_X_end_8 : decode b_X_end 8 = .ok (.iload_n 2, 1) := by decide +kernel
theorem d_X_end_9 : decode b_X_end 9 = .ok (.invokevirtual 60, 3) := by decide +kernel
theorem d_X_end_12 : decode b_X_end 12 = .ok (.astore 5, 2) := by decide +kernel
theorem d_X_end_14 : decode b_X_end 14 = .ok (.aload 5, 2) := by decide +kernel
theorem d_X_end_16 : decode b_X_end 16 = .ok (.getfield 64, 3) := by decide +kernel
theorem d_X_end_19 : decode b_X_end 19 = .ok (.iconst 2, 1) := by decide +kernel
theorem d_X_end_20 : decode b_X_end 20 = .ok (.if_icmp .ne 12, 3) := by decide +kernel
theorem d_X_end_32 : decode b_X_end 32 = .ok (.iconst (-1), 1) := by decide +kernel
theorem d_X_end_33 : decode b_X_end 33 = .ok (.ireturn, 1) := by decide +kernel
theorem d_X_end_23 : decode b_X_end 23 = .ok (.aload 5, 2) := by decide +kernel
theorem d_X_end_25 : decode b_X_end 25 = .ok (.getfield 129, 3) := by decide +kernel
theorem d_X_end_28 : decode b_X_end 28 = .ok (.iload_n 1, 1) := by decide +kernel
theorem d_X_end_29 : decode b_X_end 29 = .ok (.if_icmp .eq 5, 3) := by decide +kernel
theorem d_X_end_34 : decode b_X_end 34 = .ok (.aload 4, 2) := by decide +kernel
theorem d_X_end_36 : decode b_X_end 36 = .ok (.dup, 1) := by decide +kernel
theorem d_X_end_37 : decode b_X_end 37 = .ok (.getfield 132, 3) := by decide +kernel
theorem d_X_end_40 : decode b_X_end 40 = .ok (.iconst 1, 1) := by decide +kernel
theorem d_X_end_41 : decode b_X_end 41 = .ok (.iadd, 1) := by decide +kernel
theorem d_X_end_42 : decode b_X_end 42 = .ok (.putfield 132, 3) := by decide +kernel
theorem d_X_end_45 : decode b_X_end 45 = .ok (.iload_n 3, 1) := by decide +kernel
theorem d_X_end_46 : decode b_X_end 46 = .ok (.ifCond .eq 21, 3) := by decide +kernel
theorem d_X_end_67 : decode b_X_end 67 = .ok (.aload_n 0, 1) := by decide +kernel
