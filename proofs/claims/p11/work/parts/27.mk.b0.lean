theorem d_Mo_relative_0 : decode b_Mo_relative 0 = .ok (.aload_n 0, 1) := by decide +kernel
theorem d_Mo_relative_1 : decode b_Mo_relative 1 = .ok (.aload_n 0, 1) := by decide +kernel
theorem d_Mo_relative_2 : decode b_Mo_relative 2 = .ok (.iload_n 1, 1) := by decide +kernel
theorem d_Mo_relative_3 : decode b_Mo_relative 3 = .ok (.invokevirtual 84, 3) := by decide +kernel
theorem d_Mo_relative_6 : decode b_Mo_relative 6 = .ok (.ifCond .eq 9, 3) := by decide +kernel
theorem d_Mo_relative_15 : decode b_Mo_relative 15 = .ok (.iconst 1, 1) := by decide +kernel
theorem d_Mo_relative_16 : decode b_Mo_relative 16 = .ok (.goto 4, 3) := by decide +kernel
theorem d_Mo_relative_20 : decode b_Mo_relative 20 = .ok (.invokevirtual 87, 3) := by decide +kernel
theorem d_Mo_relative_23 : decode b_Mo_relative 23 = .ok (.ifCond .eq 5, 3) := by decide +kernel
theorem d_Mo_relative_26 : decode b_Mo_relative 26 = .ok (.iconst 0, 1) := by decide +kernel
theorem d_Mo_relative_27 : decode b_Mo_relative 27 = .ok (.ireturn, 1) := by decide +kernel
theorem d_Mo_relative_9 : decode b_Mo_relative 9 = .ok (.iload_n 2, 1) := by decide +kernel
theorem d_Mo_relative_10 : decode b_Mo_relative 10 = .ok (.bipush 99, 2) := by decide +kernel
theorem d_Mo_relative_12 : decode b_Mo_relative 12 = .ok (.if_icmp .le 7, 3) := by decide +kernel
theorem d_Mo_relative_19 : decode b_Mo_relative 19 = .ok (.iconst 0, 1) := by decide +kernel
theorem d_Mo_relative_28 : decode b_Mo_relative 28 = .ok (.iload_n 2, 1) := by decide +kernel
theorem d_Mo_relative_29 : decode b_Mo_relative 29 = .ok (.ifCond .le 44, 3) := by decide +kernel
theorem d_Mo_relative_73 : decode b_Mo_relative 73 = .ok (.iload_n 2, 1) := by decide +kernel
theorem d_Mo_relative_74 : decode b_Mo_relative 74 = .ok (.iconst 0, 1) := by decide +kernel
theorem d_Mo_relative_75 : decode b_Mo_relative 75 = .ok (.aload_n 0, 1) := by decide +kernel
theorem d_Mo_relative_76 : decode b_Mo_relative 76 = .ok (.getfield 19, 3) := by decide +kernel
theorem d_Mo_relative_79 : decode b_Mo_relative 79 = .ok (.iload_n 1, 1) := by decide +kernel
theorem d_Mo_relative_80 : decode b_Mo_relative 80 = .ok (.iaload, 1) := by decide +kernel
theorem d_Mo_relative_81 : decode b_Mo_relative 81 = .ok (.isub, 1) := by decide +kernel
theorem d_Mo_relative_82 : decode b_Mo_relative 82 = .ok (.if_icmp .gt 5, 3) := by decide +kernel
theorem d_Mo_relative_87 : decode b_Mo_relative 87 = .ok (.aload_n 0, 1) := by decide +kernel
theorem d_Mo_relative_88 : decode b_Mo_relative 88 = .ok (.getfield 16, 3) := by decide +kernel
theorem d_Mo_relative_91 : decode b_Mo_relative 91 = .ok (.sipush 256, 3) := by decide +kernel
theorem d_Mo_relative_94 : decode b_Mo_relative 94 = .ok (.iload_n 1, 1) := by decide +kernel
theorem d_Mo_relative_95 : decode b_Mo_relative 95 = .ok (.iconst 1, 1) := by decide +kernel
theorem d_Mo_relative_96 : decode b_Mo_relative 96 = .ok (.isub, 1) := by decide +kernel
theorem d_Mo_relative_97 : decode b_Mo_relative 97 = .ok (.imul, 1) := by decide +kernel
theorem d_Mo_relative_98 : decode b_Mo_relative 98 = .ok (.aload_n 0, 1) := by decide +kernel
theorem d_Mo_relative_99 : decode b_Mo_relative 99 = .ok (.getfield 19, 3) := by decide +kernel
theorem d_Mo_relative_102 : decode b_Mo_relative 102 = .ok (.iload_n 1, 1) := by decide +kernel
theorem d_Mo_relative_103 : decode b_Mo_relative 103 = .ok (.iaload, 1) := by decide +kernel
theorem d_Mo_relative_104 : decode b_Mo_relative 104 = .ok (.iadd, 1) := by decide +kernel
theorem d_Mo_relative_105 : decode b_Mo_relative 105 = .ok (.iconst 1, 1) := by decide +kernel
theorem d_Mo_relative_106 : decode b_Mo_relative 106 = .ok (.isub, 1) := by decide +kernel
theorem d_Mo_relative_107 : decode b_Mo_relative 107 = .ok (.iload_n 2, 1) := by decide +kernel
theorem d_Mo_relative_108 : decode b_Mo_relative 108 = .ok (.iadd, 1) := by decide +kernel
theorem d_Mo_relative_109 : decode b_Mo_relative 109 = .ok (.iaload, 1) := by decide +kernel
theorem d_Mo_relative_110 : decode b_Mo_relative 110 = .ok (.istore_n 3, 1) := by decide +kernel
theorem d_Mo_relative_111 : decode b_Mo_relative 111 = .ok (.aload_n 0, 1) := by decide +kernel
theorem d_Mo_relative_112 : decode b_Mo_relative 112 = .ok (.iload_n 3, 1) := by decide +kernel
theorem d_Mo_relative_113 : decode b_Mo_relative 113 = .ok (.invokevirtual 74, 3) := by decide +kernel
theorem d_Mo_relative_116 : decode b_Mo_relative 116 = .ok (.iconst 1, 1) := by decide +kernel
theorem d_Mo_relative_117 : decode b_Mo_relative 117 = .ok (.if_icmp .ne 7, 3) := by decide +kernel
theorem d_Mo_relative_124 : decode b_Mo_relative 124 = .ok (.iconst (-1), 1) := by decide +kernel
theorem d_Mo_relative_125 : decode b_Mo_relative 125 = .ok (.ireturn, 1) := by decide +kernel
theorem d_Mo_relative_120 : decode b_Mo_relative 120 = .ok (.iload_n 3, 1) := by decide +kernel
theorem d_Mo_relative_121 : decode b_Mo_relative 121 = .ok (.goto 4, 3) := by decide +kernel
theorem d_Mo_relative_85 : decode b_Mo_relative 85 = .ok (.iconst (-1), 1) := by decide +kernel
theorem d_Mo_relative_86 : decode b_Mo_relative 86 = .ok (.ireturn, 1) := by decide +kernel
theorem d_Mo_relative_32 : decode b_Mo_relative 32 = .ok (.aload_n 0, 1) := by decide +kernel
theorem d_Mo_relative_33 : decode b_Mo_relative 33 = .ok (.getfield 25, 3) := by decide +kernel
theorem d_Mo_relative_36 : decode b_Mo_relative 36 = .ok (.bipush 100, 2) := by decide +kernel
theorem d_Mo_relative_38 : decode b_Mo_relative 38 = .ok (.iload_n 1, 1) := by decide +kernel
theorem d_Mo_relative_39 : decode b_Mo_relative 39 = .ok (.imul, 1) := by decide +kernel
theorem d_Mo_relative_40 : decode b_Mo_relative 40 = .ok (.iload_n 2, 1) := by decide +kernel
theorem d_Mo_relative_41 : decode b_Mo_relative 41 = .ok (.iadd, 1) := by decide +kernel
theorem d_Mo_relative_42 : decode b_Mo_relative 42 = .ok (.iconst 1, 1) := by decide +kernel
theorem d_Mo_relative_43 : decode b_Mo_relative 43 = .ok (.isub, 1) := by decide +kernel
theorem d_Mo_relative_44 : decode b_Mo_relative 44 = .ok (.iaload, 1) := by decide +kernel
theorem d_Mo_relative_45 : decode b_Mo_relative 45 = .ok (.ifCond .le 26, 3) := by decide +kernel
theorem d_Mo_relative_71 : decode b_Mo_relative 71 = .ok (.iconst (-1), 1) := by decide +kernel
theorem d_Mo_relative_72 : decode b_Mo_relative 72 = .ok (.ireturn, 1) := by decide +kernel
theorem d_Mo_relative_48 : decode b_Mo_relative 48 = .ok (.aload_n 0, 1) := by decide +kernel
theorem d_Mo_relative_49 : decode b_Mo_relative 49 = .ok (.iload_n 1, 1) := by decide +kernel
theorem d_Mo_relative_50 : decode b_Mo_relative 50 = .ok (.aload_n 0, 1) := by decide +kernel
theorem d_Mo_relative_51 : decode b_Mo_relative 51 = .ok (.iload_n 1, 1) := by decide +kernel
theorem d_Mo_relative_52 : decode b_Mo_relative 52 = .ok (.iload_n 2, 1) := by decide +kernel
theorem d_Mo_relative_53 : decode b_Mo_relative 53 = .ok (.invokevirtual 91, 3) := by decide +kernel
theorem d_Mo_relative_56 : decode b_Mo_relative 56 = .ok (.invokevirtual 95, 3) := by decide +kernel
theorem d_Mo_relative_59 : decode b_Mo_relative 59 = .ok (.ifCond .eq 12, 3) := by decide +kernel
theorem d_Mo_relative_62 : decode b_Mo_relative 62 = .ok (.aload_n 0, 1) := by decide +kernel
theorem d_Mo_relative_63 : decode b_Mo_relative 63 = .ok (.iload_n 1, 1) := by decide +kernel
theorem d_Mo_relative_64 : decode b_Mo_relative 64 = .ok (.iload_n 2, 1) := by decide +kernel
theorem d_Mo_relative_65 : decode b_Mo_relative 65 = .ok (.invokevirtual 91, 3) := by decide +kernel
theorem d_Mo_relative_68 : decode b_Mo_relative 68 = .ok (.goto 4, 3) := by decide +kernel
theorem d_Mo_make_0 : decode b_Mo_make 0 = .ok (.aload_n 0, 1) := by decide +kernel
theorem d_Mo_make_1 : decode b_Mo_make 1 = .ok (.aload_n 0, 1) := by decide +kernel
theorem d_Mo_make_2 : decode b_Mo_make 2 = .ok (.iload_n 1, 1) := by decide +kernel
theorem d_Mo_make_3 : decode b_Mo_make 3 = .ok (.invokevirtual 84, 3) := by decide +kernel
theorem d_Mo_make_6 : decode b_Mo_make 6 = .ok (.ifCond .eq 14, 3) := by decide +kernel
theorem d_Mo_make_20 : decode b_Mo_make 20 = .ok (.iconst 1, 1) := by decide +kernel
theorem d_Mo_make_21 : decode b_Mo_make 21 = .ok (.goto 4, 3) := by decide +kernel
theorem d_Mo_make_25 : decode b_Mo_make 25 = .ok (.invokevirtual 87, 3) := by decide +kernel
theorem d_Mo_make_28 : decode b_Mo_make 28 = .ok (.ifCond .eq 5, 3) := by decide +kernel
theorem d_Mo_make_31 : decode b_Mo_make 31 = .ok (.iconst 0, 1) := by decide +kernel
theorem d_Mo_make_32 : decode b_Mo_make 32 = .ok (.ireturn, 1) := by decide +kernel
theorem d_Mo_make_9 : decode b_Mo_make 9 = .ok (.iload_n 2, 1) := by decide +kernel
theorem d_Mo_make_10 : decode b_Mo_make 10 = .ok (.iconst 1, 1) := by decide +kernel
theorem d_Mo_make_11 : decode b_Mo_make 11 = .ok (.if_icmp .lt 9, 3) := by decide +kernel
theorem d_Mo_make_14 : decode b_Mo_make 14 = .ok (.iload_n 2, 1) := by decide +kernel
theorem d_Mo_make_15 : decode b_Mo_make 15 = .ok (.bipush 99, 2) := by decide +kernel
theorem d_Mo_make_17 : decode b_Mo_make 17 = .ok (.if_icmp .le 7, 3) := by decide +kernel
theorem d_Mo_make_24 : decode b_Mo_make 24 = .ok (.iconst 0, 1) := by decide +kernel
theorem d_Mo_make_33 : decode b_Mo_make 33 = .ok (.aload_n 0, 1) := by decide +kernel
theorem d_Mo_make_34 : decode b_Mo_make 34 = .ok (.iload_n 1, 1) := by decide +kernel
theorem d_Mo_make_35 : decode b_Mo_make 35 = .ok (.iload_n 2, 1) := by decide +kernel
theorem d_Mo_make_36 : decode b_Mo_make 36 = .ok (.invokevirtual 91, 3) := by decide +kernel
theorem d_Mo_make_39 : decode b_Mo_make 39 = .ok (.istore_n 3, 1) := by decide +kernel
theorem d_Mo_make_40 : decode b_Mo_make 40 = .ok (.aload_n 0, 1) := by decide +kernel
theorem d_Mo_make_41 : decode b_Mo_make 41 = .ok (.getfield 25, 3) := by decide +kernel
theorem d_Mo_make_44 : decode b_Mo_make 44 = .ok (.bipush 100, 2) := by decide +kernel
theorem d_Mo_make_46 : decode b_Mo_make 46 = .ok (.iload_n 1, 1) := by decide +kernel
theorem d_Mo_make_47 : decode b_Mo_make 47 = .ok (.imul, 1) := by decide +kernel
theorem d_Mo_make_48 : decode b_Mo_make 48 = .ok (.iload_n 2, 1) := by decide +kernel
theorem d_Mo_make_49 : decode b_Mo_make 49 = .ok (.iadd, 1) := by decide +kernel
theorem d_Mo_make_50 : decode b_Mo_make 50 = .ok (.iconst 1, 1) := by decide +kernel
theorem d_Mo_make_51 : decode b_Mo_make 51 = .ok (.isub, 1) := by decide +kernel
theorem d_Mo_make_52 : decode b_Mo_make 52 = .ok (.iaload, 1) := by decide +kernel
theorem d_Mo_make_53 : decode b_Mo_make 53 = .ok (.ifCond .le 14, 3) := by decide +kernel
theorem d_Mo_make_67 : decode b_Mo_make 67 = .ok (.aload_n 0, 1) := by decide +kernel
theorem d_Mo_make_68 : decode b_Mo_make 68 = .ok (.iload_n 3, 1) := by decide +kernel
theorem d_Mo_make_69 : decode b_Mo_make 69 = .ok (.invokevirtual 74, 3) := by decide +kernel
theorem d_Mo_make_72 : decode b_Mo_make 72 = .ok (.ifCond .ne 18, 3) := by decide +kernel
theorem d_Mo_make_90 : decode b_Mo_make 90 = .ok (.iconst (-1), 1) := by decide +kernel
theorem d_Mo_make_91 : decode b_Mo_make 91 = .ok (.ireturn, 1) := by decide +kernel
