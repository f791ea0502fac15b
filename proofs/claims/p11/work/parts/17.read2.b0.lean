theorem d_Math_floorMod_0 : decode b_Math_floorMod 0 = .ok (.iload_n 0, 1) := by decide +kernel
theorem d_Math_floorMod_1 : decode b_Math_floorMod 1 = .ok (.iload_n 1, 1) := by decide +kernel
theorem d_Math_floorMod_2 : decode b_Math_floorMod 2 = .ok (.irem, 1) := by decide +kernel
theorem d_Math_floorMod_3 : decode b_Math_floorMod 3 = .ok (.istore_n 2, 1) := by decide +kernel
theorem d_Math_floorMod_4 : decode b_Math_floorMod 4 = .ok (.iload_n 0, 1) := by decide +kernel
theorem d_Math_floorMod_5 : decode b_Math_floorMod 5 = .ok (.iload_n 1, 1) := by decide +kernel
theorem d_Math_floorMod_6 : decode b_Math_floorMod 6 = .ok (.ixor, 1) := by decide +kernel
theorem d_Math_floorMod_7 : decode b_Math_floorMod 7 = .ok (.ifCond .ge 11, 3) := by decide +kernel
theorem d_Math_floorMod_18 : decode b_Math_floorMod 18 = .ok (.iload_n 2, 1) := by decide +kernel
theorem d_Math_floorMod_19 : decode b_Math_floorMod 19 = .ok (.ireturn, 1) := by decide +kernel
theorem d_Math_floorMod_10 : decode b_Math_floorMod 10 = .ok (.iload_n 2, 1) := by decide +kernel
theorem d_Math_floorMod_11 : decode b_Math_floorMod 11 = .ok (.ifCond .eq 7, 3) := by decide +kernel
theorem d_Math_floorMod_14 : decode b_Math_floorMod 14 = .ok (.iload_n 2, 1) := by decide +kernel
theorem d_Math_floorMod_15 : decode b_Math_floorMod 15 = .ok (.iload_n 1, 1) := by decide +kernel
theorem d_Math_floorMod_16 : decode b_Math_floorMod 16 = .ok (.iadd, 1) := by decide +kernel
theorem d_Math_floorMod_17 : decode b_Math_floorMod 17 = .ok (.ireturn, 1) := by decide +kernel
theorem d_Job_base_0 : decode b_Job_base 0 = .ok (.aload_n 0, 1) := by decide +kernel
theorem d_Job_base_1 : decode b_Job_base 1 = .ok (.getfield 9, 3) := by decide +kernel
theorem d_Job_base_4 : decode b_Job_base 4 = .ok (.arraylength, 1) := by decide +kernel
theorem d_Job_base_5 : decode b_Job_base 5 = .ok (.ifCond .le 18, 3) := by decide +kernel
theorem d_Job_base_23 : decode b_Job_base 23 = .ok (.iconst 0, 1) := by decide +kernel
theorem d_Job_base_24 : decode b_Job_base 24 = .ok (.ireturn, 1) := by decide +kernel
theorem d_Job_base_8 : decode b_Job_base 8 = .ok (.aload_n 0, 1) := by decide +kernel
theorem d_Job_base_9 : decode b_Job_base 9 = .ok (.getfield 9, 3) := by decide +kernel
theorem d_Job_base_12 : decode b_Job_base 12 = .ok (.aload_n 0, 1) := by decide +kernel
theorem d_Job_base_13 : decode b_Job_base 13 = .ok (.getfield 9, 3) := by decide +kernel
theorem d_Job_base_16 : decode b_Job_base 16 = .ok (.arraylength, 1) := by decide +kernel
theorem d_Job_base_17 : decode b_Job_base 17 = .ok (.iconst 1, 1) := by decide +kernel
theorem d_Job_base_18 : decode b_Job_base 18 = .ok (.isub, 1) := by decide +kernel
theorem d_Job_base_19 : decode b_Job_base 19 = .ok (.iaload, 1) := by decide +kernel
theorem d_Job_base_20 : decode b_Job_base 20 = .ok (.goto 4, 3) := by decide +kernel
theorem d_Job_plus_0 : decode b_Job_plus 0 = .ok (.aload_n 0, 1) := by decide +kernel
theorem d_Job_plus_1 : decode b_Job_plus 1 = .ok (.invokevirtual 15, 3) := by decide +kernel
theorem d_Job_plus_4 : decode b_Job_plus 4 = .ok (.iload_n 1, 1) := by decide +kernel
theorem d_Job_plus_5 : decode b_Job_plus 5 = .ok (.iadd, 1) := by decide +kernel
theorem d_Job_plus_6 : decode b_Job_plus 6 = .ok (.iconst 1, 1) := by decide +kernel
theorem d_Job_plus_7 : decode b_Job_plus 7 = .ok (.isub, 1) := by decide +kernel
theorem d_Job_plus_8 : decode b_Job_plus 8 = .ok (.sipush 9999, 3) := by decide +kernel
theorem d_Job_plus_11 : decode b_Job_plus 11 = .ok (.invokestatic 19, 3) := by decide +kernel
theorem d_Job_plus_14 : decode b_Job_plus 14 = .ok (.iconst 1, 1) := by decide +kernel
theorem d_Job_plus_15 : decode b_Job_plus 15 = .ok (.iadd, 1) := by decide +kernel
theorem d_Job_plus_16 : decode b_Job_plus 16 = .ok (.ireturn, 1) := by decide +kernel
theorem d_Job_countedFromNewest_0 : decode b_Job_countedFromNewest 0 = .ok (.iconst 1, 1) := by decide +kernel
theorem d_Job_countedFromNewest_1 : decode b_Job_countedFromNewest 1 = .ok (.aload_n 0, 1) := by decide +kernel
theorem d_Job_countedFromNewest_2 : decode b_Job_countedFromNewest 2 = .ok (.getfield 9, 3) := by decide +kernel
theorem d_Job_countedFromNewest_5 : decode b_Job_countedFromNewest 5 = .ok (.arraylength, 1) := by decide +kernel
theorem d_Job_countedFromNewest_6 : decode b_Job_countedFromNewest 6 = .ok (.isub, 1) := by decide +kernel
theorem d_Job_countedFromNewest_7 : decode b_Job_countedFromNewest 7 = .ok (.istore_n 2, 1) := by decide +kernel
theorem d_Job_countedFromNewest_8 : decode b_Job_countedFromNewest 8 = .ok (.iload_n 1, 1) := by decide +kernel
theorem d_Job_countedFromNewest_9 : decode b_Job_countedFromNewest 9 = .ok (.iload_n 2, 1) := by decide +kernel
theorem d_Job_countedFromNewest_10 : decode b_Job_countedFromNewest 10 = .ok (.if_icmp .lt 24, 3) := by decide +kernel
theorem d_Job_countedFromNewest_34 : decode b_Job_countedFromNewest 34 = .ok (.iconst (-1), 1) := by decide +kernel
theorem d_Job_countedFromNewest_35 : decode b_Job_countedFromNewest 35 = .ok (.ireturn, 1) := by decide +kernel
theorem d_Job_countedFromNewest_13 : decode b_Job_countedFromNewest 13 = .ok (.iload_n 1, 1) := by decide +kernel
theorem d_Job_countedFromNewest_14 : decode b_Job_countedFromNewest 14 = .ok (.ifCond .gt 20, 3) := by decide +kernel
theorem d_Job_countedFromNewest_17 : decode b_Job_countedFromNewest 17 = .ok (.aload_n 0, 1) := by decide +kernel
theorem d_Job_countedFromNewest_18 : decode b_Job_countedFromNewest 18 = .ok (.getfield 9, 3) := by decide +kernel
theorem d_Job_countedFromNewest_21 : decode b_Job_countedFromNewest 21 = .ok (.aload_n 0, 1) := by decide +kernel
theorem d_Job_countedFromNewest_22 : decode b_Job_countedFromNewest 22 = .ok (.getfield 9, 3) := by decide +kernel
theorem d_Job_countedFromNewest_25 : decode b_Job_countedFromNewest 25 = .ok (.arraylength, 1) := by decide +kernel
theorem d_Job_countedFromNewest_26 : decode b_Job_countedFromNewest 26 = .ok (.iconst 1, 1) := by decide +kernel
theorem d_Job_countedFromNewest_27 : decode b_Job_countedFromNewest 27 = .ok (.isub, 1) := by decide +kernel
theorem d_Job_countedFromNewest_28 : decode b_Job_countedFromNewest 28 = .ok (.iload_n 1, 1) := by decide +kernel
theorem d_Job_countedFromNewest_29 : decode b_Job_countedFromNewest 29 = .ok (.iadd, 1) := by decide +kernel
theorem d_Job_countedFromNewest_30 : decode b_Job_countedFromNewest 30 = .ok (.iaload, 1) := by decide +kernel
theorem d_Job_countedFromNewest_31 : decode b_Job_countedFromNewest 31 = .ok (.goto 4, 3) := by decide +kernel
theorem d_Row_isAhead_0 : decode b_Row_isAhead 0 = .ok (.iload_n 1, 1) := by decide +kernel
theorem d_Row_isAhead_1 : decode b_Row_isAhead 1 = .ok (.iload_n 0, 1) := by decide +kernel
theorem d_Row_isAhead_2 : decode b_Row_isAhead 2 = .ok (.isub, 1) := by decide +kernel
theorem d_Row_isAhead_3 : decode b_Row_isAhead 3 = .ok (.sipush 9999, 3) := by decide +kernel
theorem d_Row_isAhead_6 : decode b_Row_isAhead 6 = .ok (.invokestatic 35, 3) := by decide +kernel
theorem d_Row_isAhead_9 : decode b_Row_isAhead 9 = .ok (.istore_n 2, 1) := by decide +kernel
theorem d_Row_isAhead_10 : decode b_Row_isAhead 10 = .ok (.iload_n 2, 1) := by decide +kernel
theorem d_Row_isAhead_11 : decode b_Row_isAhead 11 = .ok (.iconst 1, 1) := by decide +kernel
theorem d_Row_isAhead_12 : decode b_Row_isAhead 12 = .ok (.if_icmp .lt 14, 3) := by decide +kernel
theorem d_Row_isAhead_26 : decode b_Row_isAhead 26 = .ok (.iconst 0, 1) := by decide +kernel
theorem d_Row_isAhead_27 : decode b_Row_isAhead 27 = .ok (.ireturn, 1) := by decide +kernel
theorem d_Row_isAhead_15 : decode b_Row_isAhead 15 = .ok (.iload_n 2, 1) := by decide +kernel
theorem d_Row_isAhead_16 : decode b_Row_isAhead 16 = .ok (.sipush 4999, 3) := by decide +kernel
theorem d_Row_isAhead_19 : decode b_Row_isAhead 19 = .ok (.if_icmp .gt 7, 3) := by decide +kernel
theorem d_Row_isAhead_22 : decode b_Row_isAhead 22 = .ok (.iconst 1, 1) := by decide +kernel
theorem d_Row_isAhead_23 : decode b_Row_isAhead 23 = .ok (.goto 4, 3) := by decide +kernel
