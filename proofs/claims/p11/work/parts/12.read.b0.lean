theorem d_X_isNumber_0 : decode b_X_isNumber 0 = .ok (.iload_n 0, 1) := by decide +kernel
theorem d_X_isNumber_1 : decode b_X_isNumber 1 = .ok (.iconst 1, 1) := by decide +kernel
theorem d_X_isNumber_2 : decode b_X_isNumber 2 = .ok (.if_icmp .lt 14, 3) := by decide +kernel
theorem d_X_isNumber_16 : decode b_X_isNumber 16 = .ok (.iconst 0, 1) := by decide +kernel
theorem d_X_isNumber_17 : decode b_X_isNumber 17 = .ok (.ireturn, 1) := by decide +kernel
theorem d_X_isNumber_5 : decode b_X_isNumber 5 = .ok (.iload_n 0, 1) := by decide +kernel
theorem d_X_isNumber_6 : decode b_X_isNumber 6 = .ok (.sipush 9999, 3) := by decide +kernel
theorem d_X_isNumber_9 : decode b_X_isNumber 9 = .ok (.if_icmp .gt 7, 3) := by decide +kernel
theorem d_X_isNumber_12 : decode b_X_isNumber 12 = .ok (.iconst 1, 1) := by decide +kernel
theorem d_X_isNumber_13 : decode b_X_isNumber 13 = .ok (.goto 4, 3) := by decide +kernel
theorem d_Gen_isDeferred_0 : decode b_Gen_isDeferred 0 = .ok (.aload_n 0, 1) := by decide +kernel
theorem d_Gen_isDeferred_1 : decode b_Gen_isDeferred 1 = .ok (.getfield 9, 3) := by decide +kernel
theorem d_Gen_isDeferred_4 : decode b_Gen_isDeferred 4 = .ok (.iconst 2, 1) := by decide +kernel
theorem d_Gen_isDeferred_5 : decode b_Gen_isDeferred 5 = .ok (.if_icmp .eq 11, 3) := by decide +kernel
theorem d_Gen_isDeferred_16 : decode b_Gen_isDeferred 16 = .ok (.iconst 1, 1) := by decide +kernel
theorem d_Gen_isDeferred_17 : decode b_Gen_isDeferred 17 = .ok (.goto 4, 3) := by decide +kernel
theorem d_Gen_isDeferred_21 : decode b_Gen_isDeferred 21 = .ok (.ireturn, 1) := by decide +kernel
theorem d_Gen_isDeferred_8 : decode b_Gen_isDeferred 8 = .ok (.aload_n 0, 1) := by decide +kernel
theorem d_Gen_isDeferred_9 : decode b_Gen_isDeferred 9 = .ok (.getfield 9, 3) := by decide +kernel
theorem d_Gen_isDeferred_12 : decode b_Gen_isDeferred 12 = .ok (.iconst 3, 1) := by decide +kernel
theorem d_Gen_isDeferred_13 : decode b_Gen_isDeferred 13 = .ok (.if_icmp .ne 7, 3) := by decide +kernel
theorem d_Gen_isDeferred_20 : decode b_Gen_isDeferred 20 = .ok (.iconst 0, 1) := by decide +kernel
theorem d_Gen_isNewOneOf_0 : decode b_Gen_isNewOneOf 0 = .ok (.aload_n 0, 1) := by decide +kernel
theorem d_Gen_isNewOneOf_1 : decode b_Gen_isNewOneOf 1 = .ok (.getfield 15, 3) := by decide +kernel
theorem d_Gen_isNewOneOf_4 : decode b_Gen_isNewOneOf 4 = .ok (.iload_n 1, 1) := by decide +kernel
theorem d_Gen_isNewOneOf_5 : decode b_Gen_isNewOneOf 5 = .ok (.if_icmp .ne 22, 3) := by decide +kernel
theorem d_Gen_isNewOneOf_27 : decode b_Gen_isNewOneOf 27 = .ok (.iconst 0, 1) := by decide +kernel
theorem d_Gen_isNewOneOf_28 : decode b_Gen_isNewOneOf 28 = .ok (.ireturn, 1) := by decide +kernel
theorem d_Gen_isNewOneOf_8 : decode b_Gen_isNewOneOf 8 = .ok (.aload_n 0, 1) := by decide +kernel
theorem d_Gen_isNewOneOf_9 : decode b_Gen_isNewOneOf 9 = .ok (.getfield 9, 3) := by decide +kernel
theorem d_Gen_isNewOneOf_12 : decode b_Gen_isNewOneOf 12 = .ok (.iconst 1, 1) := by decide +kernel
theorem d_Gen_isNewOneOf_13 : decode b_Gen_isNewOneOf 13 = .ok (.if_icmp .eq 10, 3) := by decide +kernel
theorem d_Gen_isNewOneOf_23 : decode b_Gen_isNewOneOf 23 = .ok (.iconst 1, 1) := by decide +kernel
theorem d_Gen_isNewOneOf_24 : decode b_Gen_isNewOneOf 24 = .ok (.goto 4, 3) := by decide +kernel
theorem d_Gen_isNewOneOf_16 : decode b_Gen_isNewOneOf 16 = .ok (.aload_n 0, 1) := by decide +kernel
theorem d_Gen_isNewOneOf_17 : decode b_Gen_isNewOneOf 17 = .ok (.invokevirtual 27, 3) := by decide +kernel
theorem d_Gen_isNewOneOf_20 : decode b_Gen_isNewOneOf 20 = .ok (.ifCond .eq 7, 3) := by decide +kernel
theorem d_Gen_isInTheWayOf_0 : decode b_Gen_isInTheWayOf 0 = .ok (.aload_n 0, 1) := by decide +kernel
theorem d_Gen_isInTheWayOf_1 : decode b_Gen_isInTheWayOf 1 = .ok (.getfield 9, 3) := by decide +kernel
theorem d_Gen_isInTheWayOf_4 : decode b_Gen_isInTheWayOf 4 = .ok (.iconst 1, 1) := by decide +kernel
theorem d_Gen_isInTheWayOf_5 : decode b_Gen_isInTheWayOf 5 = .ok (.if_icmp .eq 26, 3) := by decide +kernel
theorem d_Gen_isInTheWayOf_31 : decode b_Gen_isInTheWayOf 31 = .ok (.iconst 1, 1) := by decide +kernel
theorem d_Gen_isInTheWayOf_32 : decode b_Gen_isInTheWayOf 32 = .ok (.goto 4, 3) := by decide +kernel
theorem d_Gen_isInTheWayOf_36 : decode b_Gen_isInTheWayOf 36 = .ok (.ireturn, 1) := by decide +kernel
theorem d_Gen_isInTheWayOf_8 : decode b_Gen_isInTheWayOf 8 = .ok (.aload_n 0, 1) := by decide +kernel
theorem d_Gen_isInTheWayOf_9 : decode b_Gen_isInTheWayOf 9 = .ok (.invokevirtual 27, 3) := by decide +kernel
theorem d_Gen_isInTheWayOf_12 : decode b_Gen_isInTheWayOf 12 = .ok (.ifCond .ne 19, 3) := by decide +kernel
theorem d_Gen_isInTheWayOf_15 : decode b_Gen_isInTheWayOf 15 = .ok (.aload_n 0, 1) := by decide +kernel
theorem d_Gen_isInTheWayOf_16 : decode b_Gen_isInTheWayOf 16 = .ok (.getfield 9, 3) := by decide +kernel
theorem d_Gen_isInTheWayOf_19 : decode b_Gen_isInTheWayOf 19 = .ok (.iconst 4, 1) := by decide +kernel
theorem d_Gen_isInTheWayOf_20 : decode b_Gen_isInTheWayOf 20 = .ok (.if_icmp .ne 15, 3) := by decide +kernel
theorem d_Gen_isInTheWayOf_35 : decode b_Gen_isInTheWayOf 35 = .ok (.iconst 0, 1) := by decide +kernel
theorem d_Gen_isInTheWayOf_23 : decode b_Gen_isInTheWayOf 23 = .ok (.aload_n 0, 1) := by decide +kernel
theorem d_Gen_isInTheWayOf_24 : decode b_Gen_isInTheWayOf 24 = .ok (.getfield 15, 3) := by decide +kernel
theorem d_Gen_isInTheWayOf_27 : decode b_Gen_isInTheWayOf 27 = .ok (.iload_n 1, 1) := by decide +kernel
theorem d_Gen_isInTheWayOf_28 : decode b_Gen_isInTheWayOf 28 = .ok (.if_icmp .eq 7, 3) := by decide +kernel
theorem d_Gen_failedFor_0 : decode b_Gen_failedFor 0 = .ok (.aload_n 0, 1) := by decide +kernel
theorem d_Gen_failedFor_1 : decode b_Gen_failedFor 1 = .ok (.getfield 9, 3) := by decide +kernel
theorem d_Gen_failedFor_4 : decode b_Gen_failedFor 4 = .ok (.iconst 3, 1) := by decide +kernel
theorem d_Gen_failedFor_5 : decode b_Gen_failedFor 5 = .ok (.if_icmp .ne 23, 3) := by decide +kernel
theorem d_Gen_failedFor_28 : decode b_Gen_failedFor 28 = .ok (.iconst 0, 1) := by decide +kernel
theorem d_Gen_failedFor_29 : decode b_Gen_failedFor 29 = .ok (.ireturn, 1) := by decide +kernel
theorem d_Gen_failedFor_8 : decode b_Gen_failedFor 8 = .ok (.aload_n 0, 1) := by decide +kernel
theorem d_Gen_failedFor_9 : decode b_Gen_failedFor 9 = .ok (.getfield 15, 3) := by decide +kernel
theorem d_Gen_failedFor_12 : decode b_Gen_failedFor 12 = .ok (.iload_n 1, 1) := by decide +kernel
theorem d_Gen_failedFor_13 : decode b_Gen_failedFor 13 = .ok (.if_icmp .ne 15, 3) := by decide +kernel
theorem d_Gen_failedFor_16 : decode b_Gen_failedFor 16 = .ok (.aload_n 0, 1) := by decide +kernel
theorem d_Gen_failedFor_17 : decode b_Gen_failedFor 17 = .ok (.getfield 24, 3) := by decide +kernel
theorem d_Gen_failedFor_20 : decode b_Gen_failedFor 20 = .ok (.iload_n 2, 1) := by decide +kernel
theorem d_Gen_failedFor_21 : decode b_Gen_failedFor 21 = .ok (.if_icmp .lt 7, 3) := by decide +kernel
theorem d_Gen_failedFor_24 : decode b_Gen_failedFor 24 = .ok (.iconst 1, 1) := by decide +kernel
theorem d_Gen_failedFor_25 : decode b_Gen_failedFor 25 = .ok (.goto 4, 3) := by decide +kernel
theorem d_X_find_0 : decode b_X_find 0 = .ok (.iconst 0, 1) := by decide +kernel
theorem d_X_find_1 : decode b_X_find 1 = .ok (.istore_n 2, 1) := by decide +kernel
theorem d_X_find_2 : decode b_X_find 2 = .ok (.iload_n 2, 1) := by decide +kernel
theorem d_X_find_3 : decode b_X_find 3 = .ok (.aload_n 0, 1) := by decide +kernel
theorem d_X_find_4 : decode b_X_find 4 = .ok (.getfield 23, 3) := by decide +kernel
theorem d_X_find_7 : decode b_X_find 7 = .ok (.invokevirtual 84, 3) := by decide +kernel
theorem d_X_find_10 : decode b_X_find 10 = .ok (.if_icmp .ge 31, 3) := by decide +kernel
theorem d_X_find_41 : decode b_X_find 41 = .ok (.aload_n 0, 1) := by decide +kernel
theorem d_X_find_42 : decode b_X_find 42 = .ok (.getfield 31, 3) := by decide +kernel
theorem d_X_find_45 : decode b_X_find 45 = .ok (.areturn, 1) := by decide +kernel
theorem d_X_find_13 : decode b_X_find 13 = .ok (.aload_n 0, 1) := by decide +kernel
theorem d_X_find_14 : decode b_X_find 14 = .ok (.getfield 23, 3) := by decide +kernel
theorem d_X_find_17 : decode b_X_find 17 = .ok (.iload_n 2, 1) := by decide +kernel
theorem d_X_find_18 : decode b_X_find 18 = .ok (.invokevirtual 141, 3) := by decide +kernel
theorem d_X_find_21 : decode b_X_find 21 = .ok (.checkcast 26, 3) := by decide +kernel
theorem d_X_find_24 : decode b_X_find 24 = .ok (.astore_n 3, 1) := by decide +kernel
theorem d_X_find_25 : decode b_X_find 25 = .ok (.aload_n 3, 1) := by decide +kernel
theorem d_X_find_26 : decode b_X_find 26 = .ok (.getfield 166, 3) := by decide +kernel
theorem d_X_find_29 : decode b_X_find 29 = .ok (.iload_n 1, 1) := by decide +kernel
theorem d_X_find_30 : decode b_X_find 30 = .ok (.if_icmp .ne 5, 3) := by decide +kernel
theorem d_X_find_35 : decode b_X_find 35 = .ok (.iinc 2 1, 3) := by decide +kernel
theorem d_X_find_38 : decode b_X_find 38 = .ok (.goto (-36), 3) := by decide +kernel
theorem d_X_find_33 : decode b_X_find 33 = .ok (.aload_n 3, 1) := by decide +kernel
theorem d_X_find_34 : decode b_X_find 34 = .ok (.areturn, 1) := by decide +kernel
theorem d_X_howManyAre_0 : decode b_X_howManyAre 0 = .ok (.iconst 0, 1) := by decide +kernel
theorem d_X_howManyAre_1 : decode b_X_howManyAre 1 = .ok (.istore_n 2, 1) := by decide +kernel
theorem d_X_howManyAre_2 : decode b_X_howManyAre 2 = .ok (.iconst 0, 1) := by decide +kernel
theorem d_X_howManyAre_3 : decode b_X_howManyAre 3 = .ok (.istore_n 3, 1) := by decide +kernel
theorem d_X_howManyAre_4 : decode b_X_howManyAre 4 = .ok (.iload_n 3, 1) := by decide +kernel
theorem d_X_howManyAre_5 : decode b_X_howManyAre 5 = .ok (.aload_n 0, 1) := by decide +kernel
theorem d_X_howManyAre_6 : decode b_X_howManyAre 6 = .ok (.getfield 23, 3) := by decide +kernel
theorem d_X_howManyAre_9 : decode b_X_howManyAre 9 = .ok (.invokevirtual 84, 3) := by decide +kernel
theorem d_X_howManyAre_12 : decode b_X_howManyAre 12 = .ok (.if_icmp .ge 30, 3) := by decide +kernel
theorem d_X_howManyAre_42 : decode b_X_howManyAre 42 = .ok (.iload_n 2, 1) := by decide +kernel
theorem d_X_howManyAre_43 : decode b_X_howManyAre 43 = .ok (.ireturn, 1) := by decide +kernel
theorem d_X_howManyAre_15 : decode b_X_howManyAre 15 = .ok (.aload_n 0, 1) := by decide +kernel
theorem d_X_howManyAre_16 : decode b_X_howManyAre 16 = .ok (.getfield 23, 3) := by decide +kernel
theorem d_X_howManyAre_19 : decode b_X_howManyAre 19 = .ok (.iload_n 3, 1) := by decide +kernel
theorem d_X_howManyAre_20 : decode b_X_howManyAre 20 = .ok (.invokevirtual 141, 3) := by decide +kernel
theorem d_X_howManyAre_23 : decode b_X_howManyAre 23 = .ok (.checkcast 26, 3) := by decide +kernel
theorem d_X_howManyAre_26 : decode b_X_howManyAre 26 = .ok (.getfield 64, 3) := by decide +kernel
theorem d_X_howManyAre_29 : decode b_X_howManyAre 29 = .ok (.iload_n 1, 1) := by decide +kernel
theorem d_X_howManyAre_30 : decode b_X_howManyAre 30 = .ok (.if_icmp .ne 6, 3) := by decide +kernel
theorem d_X_howManyAre_36 : decode b_X_howManyAre 36 = .ok (.iinc 3 1, 3) := by decide +kernel
theorem d_X_howManyAre_39 : decode b_X_howManyAre 39 = .ok (.goto (-35), 3) := by decide +kernel
theorem d_X_howManyAre_33 : decode b_X_howManyAre 33 = .ok (.iinc 2 1, 3) := by decide +kernel
theorem d_X_jobThatMakes_0 : decode b_X_jobThatMakes 0 = .ok (.iconst 0, 1) := by decide +kernel
theorem d_X_jobThatMakes_1 : decode b_X_jobThatMakes 1 = .ok (.istore_n 1, 1) := by decide +kernel
