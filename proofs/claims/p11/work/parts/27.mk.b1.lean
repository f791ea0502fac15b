theorem d_Mo_make_75 : decode b_Mo_make 75 = .ok (.aload_n 0, 1) := by decide +kernel
theorem d_Mo_make_76 : decode b_Mo_make 76 = .ok (.getfield 98, 3) := by decide +kernel
theorem d_Mo_make_79 : decode b_Mo_make 79 = .ok (.ifCond .eq 13, 3) := by decide +kernel
theorem d_Mo_make_92 : decode b_Mo_make 92 = .ok (.aload_n 0, 1) := by decide +kernel
theorem d_Mo_make_93 : decode b_Mo_make 93 = .ok (.iload_n 3, 1) := by decide +kernel
theorem d_Mo_make_94 : decode b_Mo_make 94 = .ok (.iconst 2, 1) := by decide +kernel
theorem d_Mo_make_95 : decode b_Mo_make 95 = .ok (.iload_n 1, 1) := by decide +kernel
theorem d_Mo_make_96 : decode b_Mo_make 96 = .ok (.iconst 0, 1) := by decide +kernel
theorem d_Mo_make_97 : decode b_Mo_make 97 = .ok (.invokevirtual 49, 3) := by decide +kernel
theorem d_Mo_make_100 : decode b_Mo_make 100 = .ok (.aload_n 0, 1) := by decide +kernel
theorem d_Mo_make_101 : decode b_Mo_make 101 = .ok (.getfield 25, 3) := by decide +kernel
theorem d_Mo_make_104 : decode b_Mo_make 104 = .ok (.bipush 100, 2) := by decide +kernel
theorem d_Mo_make_106 : decode b_Mo_make 106 = .ok (.iload_n 1, 1) := by decide +kernel
theorem d_Mo_make_107 : decode b_Mo_make 107 = .ok (.imul, 1) := by decide +kernel
theorem d_Mo_make_108 : decode b_Mo_make 108 = .ok (.iload_n 2, 1) := by decide +kernel
theorem d_Mo_make_109 : decode b_Mo_make 109 = .ok (.iadd, 1) := by decide +kernel
theorem d_Mo_make_110 : decode b_Mo_make 110 = .ok (.iconst 1, 1) := by decide +kernel
theorem d_Mo_make_111 : decode b_Mo_make 111 = .ok (.isub, 1) := by decide +kernel
theorem d_Mo_make_112 : decode b_Mo_make 112 = .ok (.iconst 1, 1) := by decide +kernel
theorem d_Mo_make_113 : decode b_Mo_make 113 = .ok (.iastore, 1) := by decide +kernel
theorem d_Mo_make_114 : decode b_Mo_make 114 = .ok (.aload_n 0, 1) := by decide +kernel
theorem d_Mo_make_115 : decode b_Mo_make 115 = .ok (.iload_n 1, 1) := by decide +kernel
theorem d_Mo_make_116 : decode b_Mo_make 116 = .ok (.putfield 98, 3) := by decide +kernel
theorem d_Mo_make_119 : decode b_Mo_make 119 = .ok (.iload_n 3, 1) := by decide +kernel
theorem d_Mo_make_120 : decode b_Mo_make 120 = .ok (.ireturn, 1) := by decide +kernel
theorem d_Mo_make_82 : decode b_Mo_make 82 = .ok (.aload_n 0, 1) := by decide +kernel
theorem d_Mo_make_83 : decode b_Mo_make 83 = .ok (.getfield 98, 3) := by decide +kernel
theorem d_Mo_make_86 : decode b_Mo_make 86 = .ok (.iload_n 1, 1) := by decide +kernel
theorem d_Mo_make_87 : decode b_Mo_make 87 = .ok (.if_icmp .eq 5, 3) := by decide +kernel
theorem d_Mo_make_56 : decode b_Mo_make 56 = .ok (.aload_n 0, 1) := by decide +kernel
theorem d_Mo_make_57 : decode b_Mo_make 57 = .ok (.iload_n 1, 1) := by decide +kernel
theorem d_Mo_make_58 : decode b_Mo_make 58 = .ok (.iload_n 3, 1) := by decide +kernel
theorem d_Mo_make_59 : decode b_Mo_make 59 = .ok (.invokevirtual 95, 3) := by decide +kernel
theorem d_Mo_make_62 : decode b_Mo_make 62 = .ok (.ifCond .eq 5, 3) := by decide +kernel
theorem d_Mo_make_65 : decode b_Mo_make 65 = .ok (.iload_n 3, 1) := by decide +kernel
theorem d_Mo_make_66 : decode b_Mo_make 66 = .ok (.ireturn, 1) := by decide +kernel
theorem d_Mo_settle_0 : decode b_Mo_settle 0 = .ok (.iconst 0, 1) := by decide +kernel
theorem d_Mo_settle_1 : decode b_Mo_settle 1 = .ok (.istore_n 1, 1) := by decide +kernel
theorem d_Mo_settle_2 : decode b_Mo_settle 2 = .ok (.iconst 1, 1) := by decide +kernel
theorem d_Mo_settle_3 : decode b_Mo_settle 3 = .ok (.istore_n 2, 1) := by decide +kernel
theorem d_Mo_settle_4 : decode b_Mo_settle 4 = .ok (.iload_n 2, 1) := by decide +kernel
theorem d_Mo_settle_5 : decode b_Mo_settle 5 = .ok (.sipush 9999, 3) := by decide +kernel
theorem d_Mo_settle_8 : decode b_Mo_settle 8 = .ok (.if_icmp .gt 28, 3) := by decide +kernel
theorem d_Mo_settle_36 : decode b_Mo_settle 36 = .ok (.aload_n 0, 1) := by decide +kernel
theorem d_Mo_settle_37 : decode b_Mo_settle 37 = .ok (.iload_n 1, 1) := by decide +kernel
theorem d_Mo_settle_38 : decode b_Mo_settle 38 = .ok (.ifCond .eq 10, 3) := by decide +kernel
theorem d_Mo_settle_48 : decode b_Mo_settle 48 = .ok (.iconst 0, 1) := by decide +kernel
theorem d_Mo_settle_49 : decode b_Mo_settle 49 = .ok (.putfield 98, 3) := by decide +kernel
theorem d_Mo_settle_52 : decode b_Mo_settle 52 = .ok (.return_, 1) := by decide +kernel
theorem d_Mo_settle_41 : decode b_Mo_settle 41 = .ok (.aload_n 0, 1) := by decide +kernel
theorem d_Mo_settle_42 : decode b_Mo_settle 42 = .ok (.getfield 98, 3) := by decide +kernel
theorem d_Mo_settle_45 : decode b_Mo_settle 45 = .ok (.goto 4, 3) := by decide +kernel
theorem d_Mo_settle_11 : decode b_Mo_settle 11 = .ok (.iload_n 1, 1) := by decide +kernel
theorem d_Mo_settle_12 : decode b_Mo_settle 12 = .ok (.ifCond .ne 12, 3) := by decide +kernel
theorem d_Mo_settle_24 : decode b_Mo_settle 24 = .ok (.iconst 1, 1) := by decide +kernel
theorem d_Mo_settle_25 : decode b_Mo_settle 25 = .ok (.goto 4, 3) := by decide +kernel
theorem d_Mo_settle_29 : decode b_Mo_settle 29 = .ok (.istore_n 1, 1) := by decide +kernel
theorem d_Mo_settle_30 : decode b_Mo_settle 30 = .ok (.iinc 2 1, 3) := by decide +kernel
theorem d_Mo_settle_33 : decode b_Mo_settle 33 = .ok (.goto (-29), 3) := by decide +kernel
theorem d_Mo_settle_15 : decode b_Mo_settle 15 = .ok (.aload_n 0, 1) := by decide +kernel
theorem d_Mo_settle_16 : decode b_Mo_settle 16 = .ok (.iload_n 2, 1) := by decide +kernel
theorem d_Mo_settle_17 : decode b_Mo_settle 17 = .ok (.invokevirtual 74, 3) := by decide +kernel
theorem d_Mo_settle_20 : decode b_Mo_settle 20 = .ok (.iconst 2, 1) := by decide +kernel
theorem d_Mo_settle_21 : decode b_Mo_settle 21 = .ok (.if_icmp .ne 7, 3) := by decide +kernel
theorem d_Mo_settle_28 : decode b_Mo_settle 28 = .ok (.iconst 0, 1) := by decide +kernel
theorem d_Mo_end_0 : decode b_Mo_end 0 = .ok (.aload_n 0, 1) := by decide +kernel
theorem d_Mo_end_1 : decode b_Mo_end 1 = .ok (.aload_n 0, 1) := by decide +kernel
theorem d_Mo_end_2 : decode b_Mo_end 2 = .ok (.iload_n 1, 1) := by decide +kernel
theorem d_Mo_end_3 : decode b_Mo_end 3 = .ok (.invokevirtual 84, 3) := by decide +kernel
theorem d_Mo_end_6 : decode b_Mo_end 6 = .ok (.ifCond .ne 7, 3) := by decide +kernel
theorem d_Mo_end_13 : decode b_Mo_end 13 = .ok (.iconst 0, 1) := by decide +kernel
theorem d_Mo_end_14 : decode b_Mo_end 14 = .ok (.invokevirtual 87, 3) := by decide +kernel
theorem d_Mo_end_17 : decode b_Mo_end 17 = .ok (.ifCond .eq 5, 3) := by decide +kernel
theorem d_Mo_end_22 : decode b_Mo_end 22 = .ok (.iload_n 2, 1) := by decide +kernel
theorem d_Mo_end_23 : decode b_Mo_end 23 = .ok (.invokestatic 70, 3) := by decide +kernel
theorem d_Mo_end_26 : decode b_Mo_end 26 = .ok (.ifCond .eq 21, 3) := by decide +kernel
theorem d_Mo_end_47 : decode b_Mo_end 47 = .ok (.iconst (-1), 1) := by decide +kernel
theorem d_Mo_end_48 : decode b_Mo_end 48 = .ok (.ireturn, 1) := by decide +kernel
theorem d_Mo_end_29 : decode b_Mo_end 29 = .ok (.aload_n 0, 1) := by decide +kernel
theorem d_Mo_end_30 : decode b_Mo_end 30 = .ok (.iload_n 2, 1) := by decide +kernel
theorem d_Mo_end_31 : decode b_Mo_end 31 = .ok (.invokevirtual 74, 3) := by decide +kernel
theorem d_Mo_end_34 : decode b_Mo_end 34 = .ok (.iconst 2, 1) := by decide +kernel
theorem d_Mo_end_35 : decode b_Mo_end 35 = .ok (.if_icmp .ne 12, 3) := by decide +kernel
theorem d_Mo_end_38 : decode b_Mo_end 38 = .ok (.aload_n 0, 1) := by decide +kernel
theorem d_Mo_end_39 : decode b_Mo_end 39 = .ok (.iload_n 2, 1) := by decide +kernel
theorem d_Mo_end_40 : decode b_Mo_end 40 = .ok (.invokevirtual 42, 3) := by decide +kernel
theorem d_Mo_end_43 : decode b_Mo_end 43 = .ok (.iload_n 1, 1) := by decide +kernel
theorem d_Mo_end_44 : decode b_Mo_end 44 = .ok (.if_icmp .eq 5, 3) := by decide +kernel
theorem d_Mo_end_49 : decode b_Mo_end 49 = .ok (.aload_n 0, 1) := by decide +kernel
theorem d_Mo_end_50 : decode b_Mo_end 50 = .ok (.getfield 22, 3) := by decide +kernel
theorem d_Mo_end_53 : decode b_Mo_end 53 = .ok (.iload_n 1, 1) := by decide +kernel
theorem d_Mo_end_54 : decode b_Mo_end 54 = .ok (.dup2, 1) := by decide +kernel
theorem d_Mo_end_55 : decode b_Mo_end 55 = .ok (.iaload, 1) := by decide +kernel
theorem d_Mo_end_56 : decode b_Mo_end 56 = .ok (.iconst 1, 1) := by decide +kernel
theorem d_Mo_end_57 : decode b_Mo_end 57 = .ok (.iadd, 1) := by decide +kernel
theorem d_Mo_end_58 : decode b_Mo_end 58 = .ok (.iastore, 1) := by decide +kernel
theorem d_Mo_end_59 : decode b_Mo_end 59 = .ok (.iconst 1, 1) := by decide +kernel
theorem d_Mo_end_60 : decode b_Mo_end 60 = .ok (.istore 4, 2) := by decide +kernel
theorem d_Mo_end_62 : decode b_Mo_end 62 = .ok (.iload 4, 2) := by decide +kernel
theorem d_Mo_end_64 : decode b_Mo_end 64 = .ok (.bipush 100, 2) := by decide +kernel
theorem d_Mo_end_66 : decode b_Mo_end 66 = .ok (.if_icmp .ge 64, 3) := by decide +kernel
theorem d_Mo_end_130 : decode b_Mo_end 130 = .ok (.iload_n 3, 1) := by decide +kernel
theorem d_Mo_end_131 : decode b_Mo_end 131 = .ok (.ifCond .eq 12, 3) := by decide +kernel
theorem d_Mo_end_143 : decode b_Mo_end 143 = .ok (.aload_n 0, 1) := by decide +kernel
theorem d_Mo_end_144 : decode b_Mo_end 144 = .ok (.iload_n 2, 1) := by decide +kernel
theorem d_Mo_end_145 : decode b_Mo_end 145 = .ok (.invokevirtual 77, 3) := by decide +kernel
theorem d_Mo_end_148 : decode b_Mo_end 148 = .ok (.aload_n 0, 1) := by decide +kernel
theorem d_Mo_end_149 : decode b_Mo_end 149 = .ok (.invokevirtual 101, 3) := by decide +kernel
theorem d_Mo_end_152 : decode b_Mo_end 152 = .ok (.iload_n 3, 1) := by decide +kernel
theorem d_Mo_end_153 : decode b_Mo_end 153 = .ok (.ifCond .eq 7, 3) := by decide +kernel
theorem d_Mo_end_160 : decode b_Mo_end 160 = .ok (.iconst 1, 1) := by decide +kernel
theorem d_Mo_end_161 : decode b_Mo_end 161 = .ok (.ireturn, 1) := by decide +kernel
theorem d_Mo_end_156 : decode b_Mo_end 156 = .ok (.iconst 0, 1) := by decide +kernel
theorem d_Mo_end_157 : decode b_Mo_end 157 = .ok (.goto 4, 3) := by decide +kernel
theorem d_Mo_end_134 : decode b_Mo_end 134 = .ok (.aload_n 0, 1) := by decide +kernel
theorem d_Mo_end_135 : decode b_Mo_end 135 = .ok (.iload_n 2, 1) := by decide +kernel
theorem d_Mo_end_136 : decode b_Mo_end 136 = .ok (.iconst 3, 1) := by decide +kernel
theorem d_Mo_end_137 : decode b_Mo_end 137 = .ok (.invokevirtual 60, 3) := by decide +kernel
theorem d_Mo_end_140 : decode b_Mo_end 140 = .ok (.goto 8, 3) := by decide +kernel
theorem d_Mo_end_69 : decode b_Mo_end 69 = .ok (.bipush 100, 2) := by decide +kernel
