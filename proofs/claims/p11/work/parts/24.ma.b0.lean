theorem d_Mo_isNumber_0 : decode b_Mo_isNumber 0 = .ok (.iload_n 0, 1) := by decide +kernel
theorem d_Mo_isNumber_1 : decode b_Mo_isNumber 1 = .ok (.ifCond .le 14, 3) := by decide +kernel
theorem d_Mo_isNumber_15 : decode b_Mo_isNumber 15 = .ok (.iconst 0, 1) := by decide +kernel
theorem d_Mo_isNumber_16 : decode b_Mo_isNumber 16 = .ok (.ireturn, 1) := by decide +kernel
theorem d_Mo_isNumber_4 : decode b_Mo_isNumber 4 = .ok (.iload_n 0, 1) := by decide +kernel
theorem d_Mo_isNumber_5 : decode b_Mo_isNumber 5 = .ok (.sipush 9999, 3) := by decide +kernel
theorem d_Mo_isNumber_8 : decode b_Mo_isNumber 8 = .ok (.if_icmp .gt 7, 3) := by decide +kernel
theorem d_Mo_isNumber_11 : decode b_Mo_isNumber 11 = .ok (.iconst 1, 1) := by decide +kernel
theorem d_Mo_isNumber_12 : decode b_Mo_isNumber 12 = .ok (.goto 4, 3) := by decide +kernel
theorem d_Mo_isAhead_0 : decode b_Mo_isAhead 0 = .ok (.iload_n 1, 1) := by decide +kernel
theorem d_Mo_isAhead_1 : decode b_Mo_isAhead 1 = .ok (.iload_n 0, 1) := by decide +kernel
theorem d_Mo_isAhead_2 : decode b_Mo_isAhead 2 = .ok (.isub, 1) := by decide +kernel
theorem d_Mo_isAhead_3 : decode b_Mo_isAhead 3 = .ok (.sipush 9999, 3) := by decide +kernel
theorem d_Mo_isAhead_6 : decode b_Mo_isAhead 6 = .ok (.iadd, 1) := by decide +kernel
theorem d_Mo_isAhead_7 : decode b_Mo_isAhead 7 = .ok (.sipush 9999, 3) := by decide +kernel
theorem d_Mo_isAhead_10 : decode b_Mo_isAhead 10 = .ok (.irem, 1) := by decide +kernel
theorem d_Mo_isAhead_11 : decode b_Mo_isAhead 11 = .ok (.istore_n 2, 1) := by decide +kernel
theorem d_Mo_isAhead_12 : decode b_Mo_isAhead 12 = .ok (.iload_n 2, 1) := by decide +kernel
theorem d_Mo_isAhead_13 : decode b_Mo_isAhead 13 = .ok (.ifCond .le 14, 3) := by decide +kernel
theorem d_Mo_isAhead_27 : decode b_Mo_isAhead 27 = .ok (.iconst 0, 1) := by decide +kernel
theorem d_Mo_isAhead_28 : decode b_Mo_isAhead 28 = .ok (.ireturn, 1) := by decide +kernel
theorem d_Mo_isAhead_16 : decode b_Mo_isAhead 16 = .ok (.iload_n 2, 1) := by decide +kernel
theorem d_Mo_isAhead_17 : decode b_Mo_isAhead 17 = .ok (.sipush 5000, 3) := by decide +kernel
theorem d_Mo_isAhead_20 : decode b_Mo_isAhead 20 = .ok (.if_icmp .ge 7, 3) := by decide +kernel
theorem d_Mo_isAhead_23 : decode b_Mo_isAhead 23 = .ok (.iconst 1, 1) := by decide +kernel
theorem d_Mo_isAhead_24 : decode b_Mo_isAhead 24 = .ok (.goto 4, 3) := by decide +kernel
theorem d_Mo_fails_0 : decode b_Mo_fails 0 = .ok (.aload_n 0, 1) := by decide +kernel
theorem d_Mo_fails_1 : decode b_Mo_fails 1 = .ok (.iload_n 1, 1) := by decide +kernel
theorem d_Mo_fails_2 : decode b_Mo_fails 2 = .ok (.ifCond .eq 7, 3) := by decide +kernel
theorem d_Mo_fails_9 : decode b_Mo_fails 9 = .ok (.iconst 0, 1) := by decide +kernel
theorem d_Mo_fails_10 : decode b_Mo_fails 10 = .ok (.putfield 39, 3) := by decide +kernel
theorem d_Mo_fails_13 : decode b_Mo_fails 13 = .ok (.iload_n 1, 1) := by decide +kernel
theorem d_Mo_fails_14 : decode b_Mo_fails 14 = .ok (.ireturn, 1) := by decide +kernel
theorem d_Mo_fails_5 : decode b_Mo_fails 5 = .ok (.iconst 1, 1) := by decide +kernel
theorem d_Mo_fails_6 : decode b_Mo_fails 6 = .ok (.goto 4, 3) := by decide +kernel
theorem d_Mo_what_0 : decode b_Mo_what 0 = .ok (.aload_n 0, 1) := by decide +kernel
theorem d_Mo_what_1 : decode b_Mo_what 1 = .ok (.getfield 7, 3) := by decide +kernel
theorem d_Mo_what_4 : decode b_Mo_what 4 = .ok (.iload_n 1, 1) := by decide +kernel
theorem d_Mo_what_5 : decode b_Mo_what 5 = .ok (.iaload, 1) := by decide +kernel
theorem d_Mo_what_6 : decode b_Mo_what 6 = .ok (.bipush 7, 2) := by decide +kernel
theorem d_Mo_what_8 : decode b_Mo_what 8 = .ok (.iand, 1) := by decide +kernel
theorem d_Mo_what_9 : decode b_Mo_what 9 = .ok (.ireturn, 1) := by decide +kernel
theorem d_Mo_owner_0 : decode b_Mo_owner 0 = .ok (.aload_n 0, 1) := by decide +kernel
theorem d_Mo_owner_1 : decode b_Mo_owner 1 = .ok (.getfield 7, 3) := by decide +kernel
theorem d_Mo_owner_4 : decode b_Mo_owner 4 = .ok (.iload_n 1, 1) := by decide +kernel
theorem d_Mo_owner_5 : decode b_Mo_owner 5 = .ok (.iaload, 1) := by decide +kernel
theorem d_Mo_owner_6 : decode b_Mo_owner 6 = .ok (.iconst 3, 1) := by decide +kernel
theorem d_Mo_owner_7 : decode b_Mo_owner 7 = .ok (.ishr, 1) := by decide +kernel
theorem d_Mo_owner_8 : decode b_Mo_owner 8 = .ok (.bipush 63, 2) := by decide +kernel
theorem d_Mo_owner_10 : decode b_Mo_owner 10 = .ok (.iand, 1) := by decide +kernel
theorem d_Mo_owner_11 : decode b_Mo_owner 11 = .ok (.ireturn, 1) := by decide +kernel
theorem d_Mo_versionOf_0 : decode b_Mo_versionOf 0 = .ok (.aload_n 0, 1) := by decide +kernel
theorem d_Mo_versionOf_1 : decode b_Mo_versionOf 1 = .ok (.getfield 7, 3) := by decide +kernel
theorem d_Mo_versionOf_4 : decode b_Mo_versionOf 4 = .ok (.iload_n 1, 1) := by decide +kernel
theorem d_Mo_versionOf_5 : decode b_Mo_versionOf 5 = .ok (.iaload, 1) := by decide +kernel
theorem d_Mo_versionOf_6 : decode b_Mo_versionOf 6 = .ok (.bipush 9, 2) := by decide +kernel
theorem d_Mo_versionOf_8 : decode b_Mo_versionOf 8 = .ok (.ishr, 1) := by decide +kernel
theorem d_Mo_versionOf_9 : decode b_Mo_versionOf 9 = .ok (.ireturn, 1) := by decide +kernel
theorem d_Mo_be_0 : decode b_Mo_be 0 = .ok (.aload_n 0, 1) := by decide +kernel
theorem d_Mo_be_1 : decode b_Mo_be 1 = .ok (.getfield 7, 3) := by decide +kernel
theorem d_Mo_be_4 : decode b_Mo_be 4 = .ok (.iload_n 1, 1) := by decide +kernel
theorem d_Mo_be_5 : decode b_Mo_be 5 = .ok (.iload_n 2, 1) := by decide +kernel
theorem d_Mo_be_6 : decode b_Mo_be 6 = .ok (.iload_n 3, 1) := by decide +kernel
theorem d_Mo_be_7 : decode b_Mo_be 7 = .ok (.iconst 3, 1) := by decide +kernel
theorem d_Mo_be_8 : decode b_Mo_be 8 = .ok (.ishl, 1) := by decide +kernel
theorem d_Mo_be_9 : decode b_Mo_be 9 = .ok (.ior, 1) := by decide +kernel
theorem d_Mo_be_10 : decode b_Mo_be 10 = .ok (.iload 4, 2) := by decide +kernel
theorem d_Mo_be_12 : decode b_Mo_be 12 = .ok (.bipush 9, 2) := by decide +kernel
theorem d_Mo_be_14 : decode b_Mo_be 14 = .ok (.ishl, 1) := by decide +kernel
theorem d_Mo_be_15 : decode b_Mo_be 15 = .ok (.ior, 1) := by decide +kernel
theorem d_Mo_be_16 : decode b_Mo_be 16 = .ok (.iastore, 1) := by decide +kernel
theorem d_Mo_be_17 : decode b_Mo_be 17 = .ok (.return_, 1) := by decide +kernel
theorem d_Mo_become_0 : decode b_Mo_become 0 = .ok (.aload_n 0, 1) := by decide +kernel
theorem d_Mo_become_1 : decode b_Mo_become 1 = .ok (.iload_n 1, 1) := by decide +kernel
theorem d_Mo_become_2 : decode b_Mo_become 2 = .ok (.iload_n 2, 1) := by decide +kernel
theorem d_Mo_become_3 : decode b_Mo_become 3 = .ok (.aload_n 0, 1) := by decide +kernel
theorem d_Mo_become_4 : decode b_Mo_become 4 = .ok (.iload_n 1, 1) := by decide +kernel
theorem d_Mo_become_5 : decode b_Mo_become 5 = .ok (.invokevirtual 42, 3) := by decide +kernel
theorem d_Mo_become_8 : decode b_Mo_become 8 = .ok (.aload_n 0, 1) := by decide +kernel
theorem d_Mo_become_9 : decode b_Mo_become 9 = .ok (.iload_n 1, 1) := by decide +kernel
theorem d_Mo_become_10 : decode b_Mo_become 10 = .ok (.invokevirtual 46, 3) := by decide +kernel
theorem d_Mo_become_13 : decode b_Mo_become 13 = .ok (.invokevirtual 49, 3) := by decide +kernel
theorem d_Mo_become_16 : decode b_Mo_become 16 = .ok (.return_, 1) := by decide +kernel
