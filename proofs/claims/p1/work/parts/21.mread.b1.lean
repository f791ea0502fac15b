theorem d_Mo_reclaim_13 : decode b_Mo_reclaim 13 = .ok (.iload_n 1, 1) := by decide +kernel
theorem d_Mo_reclaim_14 : decode b_Mo_reclaim 14 = .ok (.invokevirtual 74, 3) := by decide +kernel
theorem d_Mo_reclaim_17 : decode b_Mo_reclaim 17 = .ok (.iconst 3, 1) := by decide +kernel
theorem d_Mo_reclaim_18 : decode b_Mo_reclaim 18 = .ok (.if_icmp .ge 5, 3) := by decide +kernel
theorem d_Mo_empty_0 : decode b_Mo_empty 0 = .ok (.aload_n 0, 1) := by decide +kernel
theorem d_Mo_empty_1 : decode b_Mo_empty 1 = .ok (.iconst 0, 1) := by decide +kernel
theorem d_Mo_empty_2 : decode b_Mo_empty 2 = .ok (.putfield 39, 3) := by decide +kernel
theorem d_Mo_empty_5 : decode b_Mo_empty 5 = .ok (.aload_n 0, 1) := by decide +kernel
theorem d_Mo_empty_6 : decode b_Mo_empty 6 = .ok (.getfield 64, 3) := by decide +kernel
theorem d_Mo_empty_9 : decode b_Mo_empty 9 = .ok (.ifCond .eq 7, 3) := by decide +kernel
theorem d_Mo_empty_16 : decode b_Mo_empty 16 = .ok (.iconst 0, 1) := by decide +kernel
theorem d_Mo_empty_17 : decode b_Mo_empty 17 = .ok (.istore_n 2, 1) := by decide +kernel
theorem d_Mo_empty_18 : decode b_Mo_empty 18 = .ok (.aload_n 0, 1) := by decide +kernel
theorem d_Mo_empty_19 : decode b_Mo_empty 19 = .ok (.iload_n 1, 1) := by decide +kernel
theorem d_Mo_empty_20 : decode b_Mo_empty 20 = .ok (.putfield 64, 3) := by decide +kernel
theorem d_Mo_empty_23 : decode b_Mo_empty 23 = .ok (.iload_n 2, 1) := by decide +kernel
theorem d_Mo_empty_24 : decode b_Mo_empty 24 = .ok (.ireturn, 1) := by decide +kernel
theorem d_Mo_version_0 : decode b_Mo_version 0 = .ok (.aload_n 0, 1) := by decide +kernel
theorem d_Mo_version_1 : decode b_Mo_version 1 = .ok (.iconst 0, 1) := by decide +kernel
theorem d_Mo_version_2 : decode b_Mo_version 2 = .ok (.putfield 39, 3) := by decide +kernel
theorem d_Mo_version_5 : decode b_Mo_version 5 = .ok (.iload_n 1, 1) := by decide +kernel
theorem d_Mo_version_6 : decode b_Mo_version 6 = .ok (.invokestatic 70, 3) := by decide +kernel
theorem d_Mo_version_9 : decode b_Mo_version 9 = .ok (.ifCond .eq 19, 3) := by decide +kernel
theorem d_Mo_version_28 : decode b_Mo_version 28 = .ok (.iconst (-1), 1) := by decide +kernel
theorem d_Mo_version_29 : decode b_Mo_version 29 = .ok (.ireturn, 1) := by decide +kernel
theorem d_Mo_version_12 : decode b_Mo_version 12 = .ok (.aload_n 0, 1) := by decide +kernel
theorem d_Mo_version_13 : decode b_Mo_version 13 = .ok (.iload_n 1, 1) := by decide +kernel
theorem d_Mo_version_14 : decode b_Mo_version 14 = .ok (.invokevirtual 74, 3) := by decide +kernel
theorem d_Mo_version_17 : decode b_Mo_version 17 = .ok (.ifCond .eq 11, 3) := by decide +kernel
theorem d_Mo_state_0 : decode b_Mo_state 0 = .ok (.aload_n 0, 1) := by decide +kernel
theorem d_Mo_state_1 : decode b_Mo_state 1 = .ok (.iconst 0, 1) := by decide +kernel
theorem d_Mo_state_2 : decode b_Mo_state 2 = .ok (.putfield 39, 3) := by decide +kernel
theorem d_Mo_state_5 : decode b_Mo_state 5 = .ok (.iload_n 1, 1) := by decide +kernel
theorem d_Mo_state_6 : decode b_Mo_state 6 = .ok (.invokestatic 70, 3) := by decide +kernel
theorem d_Mo_state_9 : decode b_Mo_state 9 = .ok (.ifCond .eq 11, 3) := by decide +kernel
theorem d_Mo_state_20 : decode b_Mo_state 20 = .ok (.iconst (-1), 1) := by decide +kernel
theorem d_Mo_state_21 : decode b_Mo_state 21 = .ok (.ireturn, 1) := by decide +kernel
theorem d_Mo_state_12 : decode b_Mo_state 12 = .ok (.aload_n 0, 1) := by decide +kernel
theorem d_Mo_state_13 : decode b_Mo_state 13 = .ok (.iload_n 1, 1) := by decide +kernel
theorem d_Mo_state_14 : decode b_Mo_state 14 = .ok (.invokevirtual 74, 3) := by decide +kernel
theorem d_Mo_state_17 : decode b_Mo_state 17 = .ok (.goto 4, 3) := by decide +kernel
theorem d_Mo_count_0 : decode b_Mo_count 0 = .ok (.aload_n 0, 1) := by decide +kernel
theorem d_Mo_count_1 : decode b_Mo_count 1 = .ok (.iconst 0, 1) := by decide +kernel
theorem d_Mo_count_2 : decode b_Mo_count 2 = .ok (.putfield 39, 3) := by decide +kernel
theorem d_Mo_count_5 : decode b_Mo_count 5 = .ok (.iconst 0, 1) := by decide +kernel
theorem d_Mo_count_6 : decode b_Mo_count 6 = .ok (.istore_n 2, 1) := by decide +kernel
theorem d_Mo_count_7 : decode b_Mo_count 7 = .ok (.iconst 1, 1) := by decide +kernel
theorem d_Mo_count_8 : decode b_Mo_count 8 = .ok (.istore_n 3, 1) := by decide +kernel
theorem d_Mo_count_9 : decode b_Mo_count 9 = .ok (.iload_n 3, 1) := by decide +kernel
theorem d_Mo_count_10 : decode b_Mo_count 10 = .ok (.sipush 9999, 3) := by decide +kernel
theorem d_Mo_count_13 : decode b_Mo_count 13 = .ok (.if_icmp .gt 66, 3) := by decide +kernel
theorem d_Mo_count_79 : decode b_Mo_count 79 = .ok (.iload_n 1, 1) := by decide +kernel
theorem d_Mo_count_80 : decode b_Mo_count 80 = .ok (.tableswitch 62 0 5 #[40, 45, 45, 47, 52, 57], 40) := by decide +kernel
theorem d_Mo_count_142 : decode b_Mo_count 142 = .ok (.iconst (-1), 1) := by decide +kernel
theorem d_Mo_count_143 : decode b_Mo_count 143 = .ok (.ireturn, 1) := by decide +kernel
theorem d_Mo_count_120 : decode b_Mo_count 120 = .ok (.aload_n 0, 1) := by decide +kernel
theorem d_Mo_count_121 : decode b_Mo_count 121 = .ok (.getfield 53, 3) := by decide +kernel
theorem d_Mo_count_124 : decode b_Mo_count 124 = .ok (.ireturn, 1) := by decide +kernel
theorem d_Mo_count_125 : decode b_Mo_count 125 = .ok (.iload_n 2, 1) := by decide +kernel
theorem d_Mo_count_126 : decode b_Mo_count 126 = .ok (.ireturn, 1) := by decide +kernel
theorem d_Mo_count_127 : decode b_Mo_count 127 = .ok (.aload_n 0, 1) := by decide +kernel
theorem d_Mo_count_128 : decode b_Mo_count 128 = .ok (.getfield 81, 3) := by decide +kernel
theorem d_Mo_count_131 : decode b_Mo_count 131 = .ok (.ireturn, 1) := by decide +kernel
theorem d_Mo_count_132 : decode b_Mo_count 132 = .ok (.aload_n 0, 1) := by decide +kernel
theorem d_Mo_count_133 : decode b_Mo_count 133 = .ok (.getfield 98, 3) := by decide +kernel
theorem d_Mo_count_136 : decode b_Mo_count 136 = .ok (.ireturn, 1) := by decide +kernel
theorem d_Mo_count_137 : decode b_Mo_count 137 = .ok (.aload_n 0, 1) := by decide +kernel
theorem d_Mo_count_138 : decode b_Mo_count 138 = .ok (.getfield 67, 3) := by decide +kernel
theorem d_Mo_count_141 : decode b_Mo_count 141 = .ok (.ireturn, 1) := by decide +kernel
theorem d_Mo_count_16 : decode b_Mo_count 16 = .ok (.iload_n 1, 1) := by decide +kernel
theorem d_Mo_count_17 : decode b_Mo_count 17 = .ok (.ifCond .le 62, 3) := by decide +kernel
theorem d_Mo_count_20 : decode b_Mo_count 20 = .ok (.iload_n 1, 1) := by decide +kernel
theorem d_Mo_count_21 : decode b_Mo_count 21 = .ok (.iconst 3, 1) := by decide +kernel
theorem d_Mo_count_22 : decode b_Mo_count 22 = .ok (.if_icmp .ge 57, 3) := by decide +kernel
theorem d_Mo_count_25 : decode b_Mo_count 25 = .ok (.iload_n 2, 1) := by decide +kernel
theorem d_Mo_count_26 : decode b_Mo_count 26 = .ok (.iload_n 1, 1) := by decide +kernel
theorem d_Mo_count_27 : decode b_Mo_count 27 = .ok (.iconst 2, 1) := by decide +kernel
theorem d_Mo_count_28 : decode b_Mo_count 28 = .ok (.if_icmp .ne 20, 3) := by decide +kernel
theorem d_Mo_count_48 : decode b_Mo_count 48 = .ok (.aload_n 0, 1) := by decide +kernel
theorem d_Mo_count_49 : decode b_Mo_count 49 = .ok (.iload_n 3, 1) := by decide +kernel
theorem d_Mo_count_50 : decode b_Mo_count 50 = .ok (.invokevirtual 74, 3) := by decide +kernel
theorem d_Mo_count_53 : decode b_Mo_count 53 = .ok (.iconst 2, 1) := by decide +kernel
theorem d_Mo_count_54 : decode b_Mo_count 54 = .ok (.if_icmp .eq 12, 3) := by decide +kernel
theorem d_Mo_count_57 : decode b_Mo_count 57 = .ok (.aload_n 0, 1) := by decide +kernel
theorem d_Mo_count_58 : decode b_Mo_count 58 = .ok (.iload_n 3, 1) := by decide +kernel
theorem d_Mo_count_59 : decode b_Mo_count 59 = .ok (.invokevirtual 74, 3) := by decide +kernel
theorem d_Mo_count_62 : decode b_Mo_count 62 = .ok (.iconst 3, 1) := by decide +kernel
theorem d_Mo_count_63 : decode b_Mo_count 63 = .ok (.if_icmp .ne 7, 3) := by decide +kernel
theorem d_Mo_count_70 : decode b_Mo_count 70 = .ok (.iconst 0, 1) := by decide +kernel
theorem d_Mo_count_71 : decode b_Mo_count 71 = .ok (.iadd, 1) := by decide +kernel
theorem d_Mo_count_72 : decode b_Mo_count 72 = .ok (.istore_n 2, 1) := by decide +kernel
theorem d_Mo_count_73 : decode b_Mo_count 73 = .ok (.iinc 3 1, 3) := by decide +kernel
theorem d_Mo_count_76 : decode b_Mo_count 76 = .ok (.goto (-67), 3) := by decide +kernel
theorem d_Mo_count_31 : decode b_Mo_count 31 = .ok (.aload_n 0, 1) := by decide +kernel
theorem d_Mo_count_32 : decode b_Mo_count 32 = .ok (.iload_n 3, 1) := by decide +kernel
theorem d_Mo_count_33 : decode b_Mo_count 33 = .ok (.invokevirtual 74, 3) := by decide +kernel
theorem d_Mo_count_36 : decode b_Mo_count 36 = .ok (.iconst 4, 1) := by decide +kernel
theorem d_Mo_count_37 : decode b_Mo_count 37 = .ok (.if_icmp .ne 7, 3) := by decide +kernel
theorem d_Mo_count_44 : decode b_Mo_count 44 = .ok (.iconst 0, 1) := by decide +kernel
theorem d_Mo_count_45 : decode b_Mo_count 45 = .ok (.goto 26, 3) := by decide +kernel
