theorem d_AL_grow_0 : decode b_AL_grow 0 = .ok (.aload_n 0, 1) := by decide +kernel
theorem d_AL_grow_1 : decode b_AL_grow 1 = .ok (.getfield 9, 3) := by decide +kernel
theorem d_AL_grow_4 : decode b_AL_grow 4 = .ok (.arraylength, 1) := by decide +kernel
theorem d_AL_grow_5 : decode b_AL_grow 5 = .ok (.istore_n 2, 1) := by decide +kernel
theorem d_AL_grow_6 : decode b_AL_grow 6 = .ok (.iload_n 2, 1) := by decide +kernel
theorem d_AL_grow_7 : decode b_AL_grow 7 = .ok (.ifCond .gt 13, 3) := by decide +kernel
theorem d_AL_grow_10 : decode b_AL_grow 10 = .ok (.aload_n 0, 1) := by decide +kernel
theorem d_AL_grow_11 : decode b_AL_grow 11 = .ok (.getfield 9, 3) := by decide +kernel
theorem d_AL_grow_14 : decode b_AL_grow 14 = .ok (.getstatic 39, 3) := by decide +kernel
theorem d_AL_grow_17 : decode b_AL_grow 17 = .ok (.if_acmp .eq 28, 3) := by decide +kernel
theorem d_AL_grow_45 : decode b_AL_grow 45 = .ok (.aload_n 0, 1) := by decide +kernel
theorem d_AL_grow_46 : decode b_AL_grow 46 = .ok (.bipush 10, 2) := by decide +kernel
theorem d_AL_grow_48 : decode b_AL_grow 48 = .ok (.iload_n 1, 1) := by decide +kernel
theorem d_AL_grow_49 : decode b_AL_grow 49 = .ok (.invokestatic 79, 3) := by decide +kernel
theorem d_AL_grow_52 : decode b_AL_grow 52 = .ok (.anewarray 7, 3) := by decide +kernel
theorem d_AL_grow_55 : decode b_AL_grow 55 = .ok (.dup_x1, 1) := by decide +kernel
theorem d_AL_grow_56 : decode b_AL_grow 56 = .ok (.putfield 9, 3) := by decide +kernel
theorem d_AL_grow_59 : decode b_AL_grow 59 = .ok (.areturn, 1) := by decide +kernel
theorem d_AL_grow2_0 : decode b_AL_grow2 0 = .ok (.aload_n 0, 1) := by decide +kernel
theorem d_AL_grow2_1 : decode b_AL_grow2 1 = .ok (.aload_n 0, 1) := by decide +kernel
theorem d_AL_grow2_2 : decode b_AL_grow2 2 = .ok (.getfield 48, 3) := by decide +kernel
theorem d_AL_grow2_5 : decode b_AL_grow2 5 = .ok (.iconst 1, 1) := by decide +kernel
theorem d_AL_grow2_6 : decode b_AL_grow2 6 = .ok (.iadd, 1) := by decide +kernel
theorem d_AL_grow2_7 : decode b_AL_grow2 7 = .ok (.invokevirtual 69, 3) := by decide +kernel
theorem d_AL_grow2_10 : decode b_AL_grow2 10 = .ok (.areturn, 1) := by decide +kernel
theorem d_AL_add_0 : decode b_AL_add 0 = .ok (.iload_n 3, 1) := by decide +kernel
theorem d_AL_add_1 : decode b_AL_add 1 = .ok (.aload_n 2, 1) := by decide +kernel
theorem d_AL_add_2 : decode b_AL_add 2 = .ok (.arraylength, 1) := by decide +kernel
theorem d_AL_add_3 : decode b_AL_add 3 = .ok (.if_icmp .ne 8, 3) := by decide +kernel
theorem d_AL_add_6 : decode b_AL_add 6 = .ok (.aload_n 0, 1) := by decide +kernel
theorem d_AL_add_7 : decode b_AL_add 7 = .ok (.invokevirtual 129, 3) := by decide +kernel
theorem d_AL_add_10 : decode b_AL_add 10 = .ok (.astore_n 2, 1) := by decide +kernel
theorem d_AL_add_11 : decode b_AL_add 11 = .ok (.aload_n 2, 1) := by decide +kernel
theorem d_AL_add_12 : decode b_AL_add 12 = .ok (.iload_n 3, 1) := by decide +kernel
theorem d_AL_add_13 : decode b_AL_add 13 = .ok (.aload_n 1, 1) := by decide +kernel
theorem d_AL_add_14 : decode b_AL_add 14 = .ok (.aastore, 1) := by decide +kernel
theorem d_AL_add_15 : decode b_AL_add 15 = .ok (.aload_n 0, 1) := by decide +kernel
theorem d_AL_add_16 : decode b_AL_add 16 = .ok (.iload_n 3, 1) := by decide +kernel
theorem d_AL_add_17 : decode b_AL_add 17 = .ok (.iconst 1, 1) := by decide +kernel
theorem d_AL_add_18 : decode b_AL_add 18 = .ok (.iadd, 1) := by decide +kernel
theorem d_AL_add_19 : decode b_AL_add 19 = .ok (.putfield 48, 3) := by decide +kernel
theorem d_AL_add_22 : decode b_AL_add 22 = .ok (.return_, 1) := by decide +kernel
theorem d_AL_add2_0 : decode b_AL_add2 0 = .ok (.aload_n 0, 1) := by decide +kernel
theorem d_AL_add2_1 : decode b_AL_add2 1 = .ok (.dup, 1) := by decide +kernel
theorem d_AL_add2_2 : decode b_AL_add2 2 = .ok (.getfield 63, 3) := by decide +kernel
theorem d_AL_add2_5 : decode b_AL_add2 5 = .ok (.iconst 1, 1) := by decide +kernel
theorem d_AL_add2_6 : decode b_AL_add2 6 = .ok (.iadd, 1) := by decide +kernel
theorem d_AL_add2_7 : decode b_AL_add2 7 = .ok (.putfield 63, 3) := by decide +kernel
theorem d_AL_add2_10 : decode b_AL_add2 10 = .ok (.aload_n 0, 1) := by decide +kernel
theorem d_AL_add2_11 : decode b_AL_add2 11 = .ok (.aload_n 1, 1) := by decide +kernel
theorem d_AL_add2_12 : decode b_AL_add2 12 = .ok (.aload_n 0, 1) := by decide +kernel
theorem d_AL_add2_13 : decode b_AL_add2 13 = .ok (.getfield 9, 3) := by decide +kernel
theorem d_AL_add2_16 : decode b_AL_add2 16 = .ok (.aload_n 0, 1) := by decide +kernel
theorem d_AL_add2_17 : decode b_AL_add2 17 = .ok (.getfield 48, 3) := by decide +kernel
theorem d_AL_add2_20 : decode b_AL_add2 20 = .ok (.invokevirtual 131, 3) := by decide +kernel
theorem d_AL_add2_23 : decode b_AL_add2 23 = .ok (.iconst 1, 1) := by decide +kernel
theorem d_AL_add2_24 : decode b_AL_add2 24 = .ok (.ireturn, 1) := by decide +kernel
