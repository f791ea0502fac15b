theorem d_Mo_init_0 : decode b_Mo_init 0 = .ok (.aload_n 0, 1) := by decide +kernel
theorem d_Mo_init_1 : decode b_Mo_init 1 = .ok (.invokespecial 1, 3) := by decide +kernel
theorem d_Mo_init_4 : decode b_Mo_init 4 = .ok (.aload_n 0, 1) := by decide +kernel
theorem d_Mo_init_5 : decode b_Mo_init 5 = .ok (.sipush 10000, 3) := by decide +kernel
theorem d_Mo_init_8 : decode b_Mo_init 8 = .ok (.newarray .int, 2) := by decide +kernel
theorem d_Mo_init_10 : decode b_Mo_init 10 = .ok (.putfield 7, 3) := by decide +kernel
theorem d_Mo_init_13 : decode b_Mo_init 13 = .ok (.aload_n 0, 1) := by decide +kernel
theorem d_Mo_init_14 : decode b_Mo_init 14 = .ok (.sipush 300, 3) := by decide +kernel
theorem d_Mo_init_17 : decode b_Mo_init 17 = .ok (.newarray .int, 2) := by decide +kernel
theorem d_Mo_init_19 : decode b_Mo_init 19 = .ok (.putfield 13, 3) := by decide +kernel
theorem d_Mo_init_22 : decode b_Mo_init 22 = .ok (.aload_n 0, 1) := by decide +kernel
theorem d_Mo_init_23 : decode b_Mo_init 23 = .ok (.sipush 10240, 3) := by decide +kernel
theorem d_Mo_init_26 : decode b_Mo_init 26 = .ok (.newarray .int, 2) := by decide +kernel
theorem d_Mo_init_28 : decode b_Mo_init 28 = .ok (.putfield 16, 3) := by decide +kernel
theorem d_Mo_init_31 : decode b_Mo_init 31 = .ok (.aload_n 0, 1) := by decide +kernel
theorem d_Mo_init_32 : decode b_Mo_init 32 = .ok (.bipush 41, 2) := by decide +kernel
theorem d_Mo_init_34 : decode b_Mo_init 34 = .ok (.newarray .int, 2) := by decide +kernel
theorem d_Mo_init_36 : decode b_Mo_init 36 = .ok (.putfield 19, 3) := by decide +kernel
theorem d_Mo_init_39 : decode b_Mo_init 39 = .ok (.aload_n 0, 1) := by decide +kernel
theorem d_Mo_init_40 : decode b_Mo_init 40 = .ok (.bipush 41, 2) := by decide +kernel
theorem d_Mo_init_42 : decode b_Mo_init 42 = .ok (.newarray .int, 2) := by decide +kernel
theorem d_Mo_init_44 : decode b_Mo_init 44 = .ok (.putfield 22, 3) := by decide +kernel
theorem d_Mo_init_47 : decode b_Mo_init 47 = .ok (.aload_n 0, 1) := by decide +kernel
theorem d_Mo_init_48 : decode b_Mo_init 48 = .ok (.sipush 4100, 3) := by decide +kernel
theorem d_Mo_init_51 : decode b_Mo_init 51 = .ok (.newarray .int, 2) := by decide +kernel
theorem d_Mo_init_53 : decode b_Mo_init 53 = .ok (.putfield 25, 3) := by decide +kernel
theorem d_Mo_init_56 : decode b_Mo_init 56 = .ok (.aload_n 0, 1) := by decide +kernel
theorem d_Mo_init_57 : decode b_Mo_init 57 = .ok (.sipush 2048, 3) := by decide +kernel
theorem d_Mo_init_60 : decode b_Mo_init 60 = .ok (.newarray .int, 2) := by decide +kernel
theorem d_Mo_init_62 : decode b_Mo_init 62 = .ok (.putfield 28, 3) := by decide +kernel
theorem d_Mo_init_65 : decode b_Mo_init 65 = .ok (.aload_n 0, 1) := by decide +kernel
theorem d_Mo_init_66 : decode b_Mo_init 66 = .ok (.iload_n 1, 1) := by decide +kernel
theorem d_Mo_init_67 : decode b_Mo_init 67 = .ok (.iconst 1, 1) := by decide +kernel
theorem d_Mo_init_68 : decode b_Mo_init 68 = .ok (.if_icmp .ge 7, 3) := by decide +kernel
theorem d_Mo_init_75 : decode b_Mo_init 75 = .ok (.iload_n 1, 1) := by decide +kernel
theorem d_Mo_init_76 : decode b_Mo_init 76 = .ok (.sipush 255, 3) := by decide +kernel
theorem d_Mo_init_79 : decode b_Mo_init 79 = .ok (.if_icmp .le 9, 3) := by decide +kernel
theorem d_Mo_init_88 : decode b_Mo_init 88 = .ok (.iload_n 1, 1) := by decide +kernel
theorem d_Mo_init_89 : decode b_Mo_init 89 = .ok (.putfield 31, 3) := by decide +kernel
theorem d_Mo_init_92 : decode b_Mo_init 92 = .ok (.aload_n 0, 1) := by decide +kernel
theorem d_Mo_init_93 : decode b_Mo_init 93 = .ok (.iload_n 2, 1) := by decide +kernel
theorem d_Mo_init_94 : decode b_Mo_init 94 = .ok (.ifCond .eq 7, 3) := by decide +kernel
theorem d_Mo_init_101 : decode b_Mo_init 101 = .ok (.iconst 0, 1) := by decide +kernel
theorem d_Mo_init_102 : decode b_Mo_init 102 = .ok (.putfield 35, 3) := by decide +kernel
theorem d_Mo_init_105 : decode b_Mo_init 105 = .ok (.return_, 1) := by decide +kernel
theorem d_Mo_init_97 : decode b_Mo_init 97 = .ok (.iconst 1, 1) := by decide +kernel
theorem d_Mo_init_98 : decode b_Mo_init 98 = .ok (.goto 4, 3) := by decide +kernel
theorem d_Mo_init_82 : decode b_Mo_init 82 = .ok (.sipush 255, 3) := by decide +kernel
theorem d_Mo_init_85 : decode b_Mo_init 85 = .ok (.goto 4, 3) := by decide +kernel
theorem d_Mo_init_71 : decode b_Mo_init 71 = .ok (.iconst 1, 1) := by decide +kernel
theorem d_Mo_init_72 : decode b_Mo_init 72 = .ok (.goto 17, 3) := by decide +kernel
theorem d_Mo_thrown_0 : decode b_Mo_thrown 0 = .ok (.aload_n 0, 1) := by decide +kernel
theorem d_Mo_thrown_1 : decode b_Mo_thrown 1 = .ok (.getfield 39, 3) := by decide +kernel
theorem d_Mo_thrown_4 : decode b_Mo_thrown 4 = .ok (.ireturn, 1) := by decide +kernel
theorem d_Mo_isNumber_0 : decode b_Mo_isNumber 0 = .ok (.iload_n 0, 1) := by decide +kernel
theorem d_Mo_isNumber_1 : decode b_Mo_isNumber 1 = .ok (.ifCond .le 14, 3) := by decide +kernel
theorem d_Mo_isNumber_15 : decode b_Mo_isNumber 15 = .ok (.iconst 0, 1) := by decide +kernel
theorem d_Mo_isNumber_16 : decode b_Mo_isNumber 16 = .ok (.ireturn, 1) := by decide +kernel
theorem d_Mo_isNumber_4 : decode b_Mo_isNumber 4 = .ok (.iload_n 0, 1) := by decide +kernel
theorem d_Mo_isNumber_5 : decode b_Mo_isNumber 5 = .ok (.sipush 9999, 3) := by decide +kernel
theorem d_Mo_isNumber_8 : decode b_Mo_isNumber 8 = .ok (.if_icmp .gt 7, 3) := by decide +kernel
theorem d_Mo_isNumber_11 : decode b_Mo_isNumber 11 = .ok (.iconst 1, 1) := by decide +kernel
theorem d_Mo_isNumber_12 : decode b_Mo_isNumber 12 = .ok (.goto 4, 3) := by decide +kernel
theorem d_Mo_what_0 : decode b_Mo_what 0 = .ok (.aload_n 0, 1) := by decide +kernel
theorem d_Mo_what_1 : decode b_Mo_what 1 = .ok (.getfield 7, 3) := by decide +kernel
theorem d_Mo_what_4 : decode b_Mo_what 4 = .ok (.iload_n 1, 1) := by decide +kernel
theorem d_Mo_what_5 : decode b_Mo_what 5 = .ok (.iaload, 1) := by decide +kernel
theorem d_Mo_what_6 : decode b_Mo_what 6 = .ok (.bipush 7, 2) := by decide +kernel
theorem d_Mo_what_8 : decode b_Mo_what 8 = .ok (.iand, 1) := by decide +kernel
theorem d_Mo_what_9 : decode b_Mo_what 9 = .ok (.ireturn, 1) := by decide +kernel
theorem d_Mo_owner_0 : decode b_Mo_owner 0 = .ok (.aload_n 0, 1) := by decide +kernel
theorem d_Mo_owner_1 : decode b_Mo_owner 1 = .ok (.getfield 7, 3) := by decide +kernel
theorem d_Mo_owner_4 : decode b_Mo_owner 4 = .ok (.iload_n 1, 1) := by decide +kernel
theorem d_Mo_owner_5 : decode b_Mo_owner 5 = .ok (.iaload, 1) := by decide +kernel
theorem d_Mo_owner_6 : decode b_Mo_owner 6 = .ok (.iconst 3, 1) := by decide +kernel
theorem d_Mo_owner_7 : decode b_Mo_owner 7 = .ok (.ishr, 1) := by decide +kernel
theorem d_Mo_owner_8 : decode b_Mo_owner 8 = .ok (.bipush 63, 2) := by decide +kernel
theorem d_Mo_owner_10 : decode b_Mo_owner 10 = .ok (.iand, 1) := by decide +kernel
theorem d_Mo_owner_11 : decode b_Mo_owner 11 = .ok (.ireturn, 1) := by decide +kernel
theorem d_Mo_versionOf_0 : decode b_Mo_versionOf 0 = .ok (.aload_n 0, 1) := by decide +kernel
theorem d_Mo_versionOf_1 : decode b_Mo_versionOf 1 = .ok (.getfield 7, 3) := by decide +kernel
theorem d_Mo_versionOf_4 : decode b_Mo_versionOf 4 = .ok (.iload_n 1, 1) := by decide +kernel
theorem d_Mo_versionOf_5 : decode b_Mo_versionOf 5 = .ok (.iaload, 1) := by decide +kernel
theorem d_Mo_versionOf_6 : decode b_Mo_versionOf 6 = .ok (.bipush 9, 2) := by decide +kernel
theorem d_Mo_versionOf_8 : decode b_Mo_versionOf 8 = .ok (.ishr, 1) := by decide +kernel
theorem d_Mo_versionOf_9 : decode b_Mo_versionOf 9 = .ok (.ireturn, 1) := by decide +kernel
theorem d_Mo_be_0 : decode b_Mo_be 0 = .ok (.aload_n 0, 1) := by decide +kernel
theorem d_Mo_be_1 : decode b_Mo_be 1 = .ok (.getfield 7, 3) := by decide +kernel
theorem d_Mo_be_4 : decode b_Mo_be 4 = .ok (.iload_n 1, 1) := by decide +kernel
theorem d_Mo_be_5 : decode b_Mo_be 5 = .ok (.iload_n 2, 1) := by decide +kernel
theorem d_Mo_be_6 : decode b_Mo_be 6 = .ok (.iload_n 3, 1) := by decide +kernel
theorem d_Mo_be_7 : decode b_Mo_be 7 = .ok (.iconst 3, 1) := by decide +kernel
theorem d_Mo_be_8 : decode b_Mo_be 8 = .ok (.ishl, 1) := by decide +kernel
theorem d_Mo_be_9 : decode b_Mo_be 9 = .ok (.ior, 1) := by decide +kernel
theorem d_Mo_be_10 : decode b_Mo_be 10 = .ok (.iload 4, 2) := by decide +kernel
theorem d_Mo_be_12 : decode b_Mo_be 12 = .ok (.bipush 9, 2) := by decide +kernel
theorem d_Mo_be_14 : decode b_Mo_be 14 = .ok (.ishl, 1) := by decide +kernel
theorem d_Mo_be_15 : decode b_Mo_be 15 = .ok (.ior, 1) := by decide +kernel
theorem d_Mo_be_16 : decode b_Mo_be 16 = .ok (.iastore, 1) := by decide +kernel
theorem d_Mo_be_17 : decode b_Mo_be 17 = .ok (.return_, 1) := by decide +kernel
theorem d_Mo_become_0 : decode b_Mo_become 0 = .ok (.aload_n 0, 1) := by decide +kernel
theorem d_Mo_become_1 : decode b_Mo_become 1 = .ok (.iload_n 1, 1) := by decide +kernel
theorem d_Mo_become_2 : decode b_Mo_become 2 = .ok (.iload_n 2, 1) := by decide +kernel
theorem d_Mo_become_3 : decode b_Mo_become 3 = .ok (.aload_n 0, 1) := by decide +kernel
theorem d_Mo_become_4 : decode b_Mo_become 4 = .ok (.iload_n 1, 1) := by decide +kernel
theorem d_Mo_become_5 : decode b_Mo_become 5 = .ok (.invokevirtual 42, 3) := by decide +kernel
theorem d_Mo_become_8 : decode b_Mo_become 8 = .ok (.aload_n 0, 1) := by decide +kernel
theorem d_Mo_become_9 : decode b_Mo_become 9 = .ok (.iload_n 1, 1) := by decide +kernel
theorem d_Mo_become_10 : decode b_Mo_become 10 = .ok (.invokevirtual 46, 3) := by decide +kernel
theorem d_Mo_become_13 : decode b_Mo_become 13 = .ok (.invokevirtual 49, 3) := by decide +kernel
theorem d_Mo_become_16 : decode b_Mo_become 16 = .ok (.return_, 1) := by decide +kernel
theorem d_Mo_enter_0 : decode b_Mo_enter 0 = .ok (.iconst 0, 1) := by decide +kernel
theorem d_Mo_enter_1 : decode b_Mo_enter 1 = .ok (.istore_n 2, 1) := by decide +kernel
theorem d_Mo_enter_2 : decode b_Mo_enter 2 = .ok (.iconst 0, 1) := by decide +kernel
theorem d_Mo_enter_3 : decode b_Mo_enter 3 = .ok (.istore_n 3, 1) := by decide +kernel
theorem d_Mo_enter_4 : decode b_Mo_enter 4 = .ok (.iload_n 3, 1) := by decide +kernel
theorem d_Mo_enter_5 : decode b_Mo_enter 5 = .ok (.aload_n 0, 1) := by decide +kernel
theorem d_Mo_enter_6 : decode b_Mo_enter 6 = .ok (.getfield 53, 3) := by decide +kernel
theorem d_Mo_enter_9 : decode b_Mo_enter 9 = .ok (.if_icmp .ge 30, 3) := by decide +kernel
theorem d_Mo_enter_39 : decode b_Mo_enter 39 = .ok (.aload_n 0, 1) := by decide +kernel
