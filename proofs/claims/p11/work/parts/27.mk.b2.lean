theorem d_Mo_end_71 : decode b_Mo_end 71 = .ok (.iload_n 1, 1) := by decide +kernel
theorem d_Mo_end_72 : decode b_Mo_end 72 = .ok (.imul, 1) := by decide +kernel
theorem d_Mo_end_73 : decode b_Mo_end 73 = .ok (.iload 4, 2) := by decide +kernel
theorem d_Mo_end_75 : decode b_Mo_end 75 = .ok (.iadd, 1) := by decide +kernel
theorem d_Mo_end_76 : decode b_Mo_end 76 = .ok (.iconst 1, 1) := by decide +kernel
theorem d_Mo_end_77 : decode b_Mo_end 77 = .ok (.isub, 1) := by decide +kernel
theorem d_Mo_end_78 : decode b_Mo_end 78 = .ok (.istore 5, 2) := by decide +kernel
theorem d_Mo_end_80 : decode b_Mo_end 80 = .ok (.aload_n 0, 1) := by decide +kernel
theorem d_Mo_end_81 : decode b_Mo_end 81 = .ok (.getfield 25, 3) := by decide +kernel
theorem d_Mo_end_84 : decode b_Mo_end 84 = .ok (.iload 5, 2) := by decide +kernel
theorem d_Mo_end_86 : decode b_Mo_end 86 = .ok (.iaload, 1) := by decide +kernel
theorem d_Mo_end_87 : decode b_Mo_end 87 = .ok (.ifCond .le 37, 3) := by decide +kernel
theorem d_Mo_end_124 : decode b_Mo_end 124 = .ok (.iinc 4 1, 3) := by decide +kernel
theorem d_Mo_end_127 : decode b_Mo_end 127 = .ok (.goto (-65), 3) := by decide +kernel
theorem d_Mo_end_90 : decode b_Mo_end 90 = .ok (.aload_n 0, 1) := by decide +kernel
theorem d_Mo_end_91 : decode b_Mo_end 91 = .ok (.iload_n 1, 1) := by decide +kernel
theorem d_Mo_end_92 : decode b_Mo_end 92 = .ok (.iload 4, 2) := by decide +kernel
theorem d_Mo_end_94 : decode b_Mo_end 94 = .ok (.invokevirtual 91, 3) := by decide +kernel
theorem d_Mo_end_97 : decode b_Mo_end 97 = .ok (.iload_n 2, 1) := by decide +kernel
theorem d_Mo_end_98 : decode b_Mo_end 98 = .ok (.if_icmp .ne 26, 3) := by decide +kernel
theorem d_Mo_end_101 : decode b_Mo_end 101 = .ok (.aload_n 0, 1) := by decide +kernel
theorem d_Mo_end_102 : decode b_Mo_end 102 = .ok (.getfield 25, 3) := by decide +kernel
theorem d_Mo_end_105 : decode b_Mo_end 105 = .ok (.iload 5, 2) := by decide +kernel
theorem d_Mo_end_107 : decode b_Mo_end 107 = .ok (.iload_n 3, 1) := by decide +kernel
theorem d_Mo_end_108 : decode b_Mo_end 108 = .ok (.ifCond .eq 14, 3) := by decide +kernel
theorem d_Mo_end_122 : decode b_Mo_end 122 = .ok (.iconst 1, 1) := by decide +kernel
theorem d_Mo_end_123 : decode b_Mo_end 123 = .ok (.iastore, 1) := by decide +kernel
theorem d_Mo_end_111 : decode b_Mo_end 111 = .ok (.iconst 1, 1) := by decide +kernel
theorem d_Mo_end_112 : decode b_Mo_end 112 = .ok (.aload_n 0, 1) := by decide +kernel
theorem d_Mo_end_113 : decode b_Mo_end 113 = .ok (.getfield 22, 3) := by decide +kernel
theorem d_Mo_end_116 : decode b_Mo_end 116 = .ok (.iload_n 1, 1) := by decide +kernel
theorem d_Mo_end_117 : decode b_Mo_end 117 = .ok (.iaload, 1) := by decide +kernel
theorem d_Mo_end_118 : decode b_Mo_end 118 = .ok (.iadd, 1) := by decide +kernel
theorem d_Mo_end_119 : decode b_Mo_end 119 = .ok (.goto 4, 3) := by decide +kernel
theorem d_Mo_end_9 : decode b_Mo_end 9 = .ok (.iconst 1, 1) := by decide +kernel
theorem d_Mo_end_10 : decode b_Mo_end 10 = .ok (.goto 4, 3) := by decide +kernel
theorem d_Mo_end_20 : decode b_Mo_end 20 = .ok (.iconst 0, 1) := by decide +kernel
theorem d_Mo_end_21 : decode b_Mo_end 21 = .ok (.ireturn, 1) := by decide +kernel
theorem d_Mo_restart_0 : decode b_Mo_restart 0 = .ok (.aload_n 0, 1) := by decide +kernel
theorem d_Mo_restart_1 : decode b_Mo_restart 1 = .ok (.aload_n 0, 1) := by decide +kernel
theorem d_Mo_restart_2 : decode b_Mo_restart 2 = .ok (.iload_n 1, 1) := by decide +kernel
theorem d_Mo_restart_3 : decode b_Mo_restart 3 = .ok (.invokevirtual 84, 3) := by decide +kernel
theorem d_Mo_restart_6 : decode b_Mo_restart 6 = .ok (.ifCond .ne 7, 3) := by decide +kernel
theorem d_Mo_restart_13 : decode b_Mo_restart 13 = .ok (.iconst 0, 1) := by decide +kernel
theorem d_Mo_restart_14 : decode b_Mo_restart 14 = .ok (.invokevirtual 87, 3) := by decide +kernel
theorem d_Mo_restart_17 : decode b_Mo_restart 17 = .ok (.ifCond .eq 5, 3) := by decide +kernel
theorem d_Mo_restart_22 : decode b_Mo_restart 22 = .ok (.aload_n 0, 1) := by decide +kernel
theorem d_Mo_restart_23 : decode b_Mo_restart 23 = .ok (.getfield 98, 3) := by decide +kernel
theorem d_Mo_restart_26 : decode b_Mo_restart 26 = .ok (.ifCond .eq 11, 3) := by decide +kernel
theorem d_Mo_restart_37 : decode b_Mo_restart 37 = .ok (.iload_n 2, 1) := by decide +kernel
theorem d_Mo_restart_38 : decode b_Mo_restart 38 = .ok (.iconst 1, 1) := by decide +kernel
theorem d_Mo_restart_39 : decode b_Mo_restart 39 = .ok (.if_icmp .lt 15, 3) := by decide +kernel
theorem d_Mo_restart_54 : decode b_Mo_restart 54 = .ok (.iconst (-1), 1) := by decide +kernel
theorem d_Mo_restart_55 : decode b_Mo_restart 55 = .ok (.ireturn, 1) := by decide +kernel
theorem d_Mo_restart_42 : decode b_Mo_restart 42 = .ok (.iload_n 2, 1) := by decide +kernel
theorem d_Mo_restart_43 : decode b_Mo_restart 43 = .ok (.aload_n 0, 1) := by decide +kernel
theorem d_Mo_restart_44 : decode b_Mo_restart 44 = .ok (.getfield 22, 3) := by decide +kernel
theorem d_Mo_restart_47 : decode b_Mo_restart 47 = .ok (.iload_n 1, 1) := by decide +kernel
theorem d_Mo_restart_48 : decode b_Mo_restart 48 = .ok (.iaload, 1) := by decide +kernel
theorem d_Mo_restart_49 : decode b_Mo_restart 49 = .ok (.iconst 1, 1) := by decide +kernel
theorem d_Mo_restart_50 : decode b_Mo_restart 50 = .ok (.iadd, 1) := by decide +kernel
theorem d_Mo_restart_51 : decode b_Mo_restart 51 = .ok (.if_icmp .le 5, 3) := by decide +kernel
theorem d_Mo_restart_56 : decode b_Mo_restart 56 = .ok (.iconst 0, 1) := by decide +kernel
theorem d_Mo_restart_57 : decode b_Mo_restart 57 = .ok (.istore_n 3, 1) := by decide +kernel
theorem d_Mo_restart_58 : decode b_Mo_restart 58 = .ok (.iconst 1, 1) := by decide +kernel
theorem d_Mo_restart_59 : decode b_Mo_restart 59 = .ok (.istore 4, 2) := by decide +kernel
theorem d_Mo_restart_61 : decode b_Mo_restart 61 = .ok (.iload 4, 2) := by decide +kernel
theorem d_Mo_restart_63 : decode b_Mo_restart 63 = .ok (.bipush 100, 2) := by decide +kernel
theorem d_Mo_restart_65 : decode b_Mo_restart 65 = .ok (.if_icmp .ge 74, 3) := by decide +kernel
theorem d_Mo_restart_139 : decode b_Mo_restart 139 = .ok (.iload_n 3, 1) := by decide +kernel
theorem d_Mo_restart_140 : decode b_Mo_restart 140 = .ok (.ireturn, 1) := by decide +kernel
theorem d_Mo_restart_68 : decode b_Mo_restart 68 = .ok (.aload_n 0, 1) := by decide +kernel
theorem d_Mo_restart_69 : decode b_Mo_restart 69 = .ok (.iload_n 1, 1) := by decide +kernel
theorem d_Mo_restart_70 : decode b_Mo_restart 70 = .ok (.iload 4, 2) := by decide +kernel
theorem d_Mo_restart_72 : decode b_Mo_restart 72 = .ok (.invokevirtual 91, 3) := by decide +kernel
theorem d_Mo_restart_75 : decode b_Mo_restart 75 = .ok (.istore 5, 2) := by decide +kernel
theorem d_Mo_restart_77 : decode b_Mo_restart 77 = .ok (.aload_n 0, 1) := by decide +kernel
theorem d_Mo_restart_78 : decode b_Mo_restart 78 = .ok (.getfield 25, 3) := by decide +kernel
theorem d_Mo_restart_81 : decode b_Mo_restart 81 = .ok (.bipush 100, 2) := by decide +kernel
theorem d_Mo_restart_83 : decode b_Mo_restart 83 = .ok (.iload_n 1, 1) := by decide +kernel
theorem d_Mo_restart_84 : decode b_Mo_restart 84 = .ok (.imul, 1) := by decide +kernel
theorem d_Mo_restart_85 : decode b_Mo_restart 85 = .ok (.iload 4, 2) := by decide +kernel
theorem d_Mo_restart_87 : decode b_Mo_restart 87 = .ok (.iadd, 1) := by decide +kernel
theorem d_Mo_restart_88 : decode b_Mo_restart 88 = .ok (.iconst 1, 1) := by decide +kernel
theorem d_Mo_restart_89 : decode b_Mo_restart 89 = .ok (.isub, 1) := by decide +kernel
theorem d_Mo_restart_90 : decode b_Mo_restart 90 = .ok (.iaload, 1) := by decide +kernel
theorem d_Mo_restart_91 : decode b_Mo_restart 91 = .ok (.iload_n 2, 1) := by decide +kernel
theorem d_Mo_restart_92 : decode b_Mo_restart 92 = .ok (.if_icmp .le 41, 3) := by decide +kernel
theorem d_Mo_restart_133 : decode b_Mo_restart 133 = .ok (.iinc 4 1, 3) := by decide +kernel
theorem d_Mo_restart_136 : decode b_Mo_restart 136 = .ok (.goto (-75), 3) := by decide +kernel
theorem d_Mo_restart_95 : decode b_Mo_restart 95 = .ok (.aload_n 0, 1) := by decide +kernel
theorem d_Mo_restart_96 : decode b_Mo_restart 96 = .ok (.iload 5, 2) := by decide +kernel
theorem d_Mo_restart_98 : decode b_Mo_restart 98 = .ok (.invokevirtual 74, 3) := by decide +kernel
theorem d_Mo_restart_101 : decode b_Mo_restart 101 = .ok (.iconst 3, 1) := by decide +kernel
theorem d_Mo_restart_102 : decode b_Mo_restart 102 = .ok (.if_icmp .ne 31, 3) := by decide +kernel
theorem d_Mo_restart_105 : decode b_Mo_restart 105 = .ok (.aload_n 0, 1) := by decide +kernel
theorem d_Mo_restart_106 : decode b_Mo_restart 106 = .ok (.iload 5, 2) := by decide +kernel
theorem d_Mo_restart_108 : decode b_Mo_restart 108 = .ok (.invokevirtual 42, 3) := by decide +kernel
theorem d_Mo_restart_111 : decode b_Mo_restart 111 = .ok (.iload_n 1, 1) := by decide +kernel
theorem d_Mo_restart_112 : decode b_Mo_restart 112 = .ok (.if_icmp .eq 6, 3) := by decide +kernel
theorem d_Mo_restart_118 : decode b_Mo_restart 118 = .ok (.aload_n 0, 1) := by decide +kernel
theorem d_Mo_restart_119 : decode b_Mo_restart 119 = .ok (.iload 5, 2) := by decide +kernel
theorem d_Mo_restart_121 : decode b_Mo_restart 121 = .ok (.iconst 2, 1) := by decide +kernel
theorem d_Mo_restart_122 : decode b_Mo_restart 122 = .ok (.invokevirtual 60, 3) := by decide +kernel
theorem d_Mo_restart_125 : decode b_Mo_restart 125 = .ok (.aload_n 0, 1) := by decide +kernel
theorem d_Mo_restart_126 : decode b_Mo_restart 126 = .ok (.iload_n 1, 1) := by decide +kernel
theorem d_Mo_restart_127 : decode b_Mo_restart 127 = .ok (.putfield 98, 3) := by decide +kernel
theorem d_Mo_restart_130 : decode b_Mo_restart 130 = .ok (.iinc 3 1, 3) := by decide +kernel
theorem d_Mo_restart_115 : decode b_Mo_restart 115 = .ok (.goto 18, 3) := by decide +kernel
theorem d_Mo_restart_29 : decode b_Mo_restart 29 = .ok (.aload_n 0, 1) := by decide +kernel
theorem d_Mo_restart_30 : decode b_Mo_restart 30 = .ok (.getfield 98, 3) := by decide +kernel
theorem d_Mo_restart_33 : decode b_Mo_restart 33 = .ok (.iload_n 1, 1) := by decide +kernel
theorem d_Mo_restart_34 : decode b_Mo_restart 34 = .ok (.if_icmp .ne 20, 3) := by decide +kernel
theorem d_Mo_restart_9 : decode b_Mo_restart 9 = .ok (.iconst 1, 1) := by decide +kernel
theorem d_Mo_restart_10 : decode b_Mo_restart 10 = .ok (.goto 4, 3) := by decide +kernel
theorem d_Mo_restart_20 : decode b_Mo_restart 20 = .ok (.iconst 0, 1) := by decide +kernel
theorem d_Mo_restart_21 : decode b_Mo_restart 21 = .ok (.ireturn, 1) := by decide +kernel
