theorem d_Gen_init_0 : decode b_Gen_init 0 = .ok (.aload_n 0, 1) := by decide +kernel
theorem d_Gen_init_1 : decode b_Gen_init 1 = .ok (.invokespecial 3, 3) := by decide +kernel
theorem d_Gen_init_4 : decode b_Gen_init 4 = .ok (.aload_n 0, 1) := by decide +kernel
theorem d_Gen_init_5 : decode b_Gen_init 5 = .ok (.iconst 0, 1) := by decide +kernel
theorem d_Gen_init_6 : decode b_Gen_init 6 = .ok (.putfield 9, 3) := by decide +kernel
theorem d_Gen_init_9 : decode b_Gen_init 9 = .ok (.aload_n 0, 1) := by decide +kernel
theorem d_Gen_init_10 : decode b_Gen_init 10 = .ok (.iconst 0, 1) := by decide +kernel
theorem d_Gen_init_11 : decode b_Gen_init 11 = .ok (.putfield 15, 3) := by decide +kernel
theorem d_Gen_init_14 : decode b_Gen_init 14 = .ok (.aload_n 0, 1) := by decide +kernel
theorem d_Gen_init_15 : decode b_Gen_init 15 = .ok (.iload_n 1, 1) := by decide +kernel
theorem d_Gen_init_16 : decode b_Gen_init 16 = .ok (.putfield 18, 3) := by decide +kernel
theorem d_Gen_init_19 : decode b_Gen_init 19 = .ok (.return_, 1) := by decide +kernel
theorem d_Gen_beginAnew_0 : decode b_Gen_beginAnew 0 = .ok (.aload_n 0, 1) := by decide +kernel
theorem d_Gen_beginAnew_1 : decode b_Gen_beginAnew 1 = .ok (.iload_n 1, 1) := by decide +kernel
theorem d_Gen_beginAnew_2 : decode b_Gen_beginAnew 2 = .ok (.putfield 15, 3) := by decide +kernel
theorem d_Gen_beginAnew_5 : decode b_Gen_beginAnew 5 = .ok (.aload_n 0, 1) := by decide +kernel
theorem d_Gen_beginAnew_6 : decode b_Gen_beginAnew 6 = .ok (.iconst 0, 1) := by decide +kernel
theorem d_Gen_beginAnew_7 : decode b_Gen_beginAnew 7 = .ok (.putfield 21, 3) := by decide +kernel
theorem d_Gen_beginAnew_10 : decode b_Gen_beginAnew 10 = .ok (.aload_n 0, 1) := by decide +kernel
theorem d_Gen_beginAnew_11 : decode b_Gen_beginAnew 11 = .ok (.iconst 0, 1) := by decide +kernel
theorem d_Gen_beginAnew_12 : decode b_Gen_beginAnew 12 = .ok (.putfield 24, 3) := by decide +kernel
theorem d_Gen_beginAnew_15 : decode b_Gen_beginAnew 15 = .ok (.return_, 1) := by decide +kernel
theorem d_Row_put_0 : decode b_Row_put 0 = .ok (.aload_n 0, 1) := by decide +kernel
theorem d_Row_put_1 : decode b_Row_put 1 = .ok (.getfield 15, 3) := by decide +kernel
theorem d_Row_put_4 : decode b_Row_put 4 = .ok (.aload_n 0, 1) := by decide +kernel
theorem d_Row_put_5 : decode b_Row_put 5 = .ok (.getfield 9, 3) := by decide +kernel
theorem d_Row_put_8 : decode b_Row_put 8 = .ok (.arraylength, 1) := by decide +kernel
theorem d_Row_put_9 : decode b_Row_put 9 = .ok (.if_icmp .lt 4, 3) := by decide +kernel
theorem d_Row_put_13 : decode b_Row_put 13 = .ok (.aload_n 0, 1) := by decide +kernel
theorem d_Row_put_14 : decode b_Row_put 14 = .ok (.getfield 15, 3) := by decide +kernel
theorem d_Row_put_17 : decode b_Row_put 17 = .ok (.istore_n 2, 1) := by decide +kernel
theorem d_Row_put_18 : decode b_Row_put 18 = .ok (.iload_n 2, 1) := by decide +kernel
theorem d_Row_put_19 : decode b_Row_put 19 = .ok (.ifCond .le 38, 3) := by decide +kernel
theorem d_Row_put_57 : decode b_Row_put 57 = .ok (.aload_n 0, 1) := by decide +kernel
theorem d_Row_put_58 : decode b_Row_put 58 = .ok (.getfield 9, 3) := by decide +kernel
theorem d_Row_put_61 : decode b_Row_put 61 = .ok (.iload_n 2, 1) := by decide +kernel
theorem d_Row_put_62 : decode b_Row_put 62 = .ok (.iload_n 1, 1) := by decide +kernel
theorem d_Row_put_63 : decode b_Row_put 63 = .ok (.iastore, 1) := by decide +kernel
theorem d_Row_put_64 : decode b_Row_put 64 = .ok (.aload_n 0, 1) := by decide +kernel
theorem d_Row_put_65 : decode b_Row_put 65 = .ok (.dup, 1) := by decide +kernel
theorem d_Row_put_66 : decode b_Row_put 66 = .ok (.getfield 15, 3) := by decide +kernel
theorem d_Row_put_69 : decode b_Row_put 69 = .ok (.iconst 1, 1) := by decide +kernel
theorem d_Row_put_70 : decode b_Row_put 70 = .ok (.iadd, 1) := by decide +kernel
theorem d_Row_put_71 : decode b_Row_put 71 = .ok (.putfield 15, 3) := by decide +kernel
theorem d_Row_put_74 : decode b_Row_put 74 = .ok (.return_, 1) := by decide +kernel
theorem d_Row_put_22 : decode b_Row_put 22 = .ok (.aload_n 0, 1) := by decide +kernel
theorem d_Row_put_23 : decode b_Row_put 23 = .ok (.getfield 9, 3) := by decide +kernel
theorem d_Row_put_26 : decode b_Row_put 26 = .ok (.iload_n 2, 1) := by decide +kernel
theorem d_Row_put_27 : decode b_Row_put 27 = .ok (.iconst 1, 1) := by decide +kernel
theorem d_Row_put_28 : decode b_Row_put 28 = .ok (.isub, 1) := by decide +kernel
theorem d_Row_put_29 : decode b_Row_put 29 = .ok (.iaload, 1) := by decide +kernel
theorem d_Row_put_30 : decode b_Row_put 30 = .ok (.iload_n 1, 1) := by decide +kernel
theorem d_Row_put_31 : decode b_Row_put 31 = .ok (.invokestatic 25, 3) := by decide +kernel
theorem d_Row_put_34 : decode b_Row_put 34 = .ok (.ifCond .ne 23, 3) := by decide +kernel
theorem d_Row_put_37 : decode b_Row_put 37 = .ok (.aload_n 0, 1) := by decide +kernel
theorem d_Row_put_38 : decode b_Row_put 38 = .ok (.getfield 9, 3) := by decide +kernel
theorem d_Row_put_41 : decode b_Row_put 41 = .ok (.iload_n 2, 1) := by decide +kernel
theorem d_Row_put_42 : decode b_Row_put 42 = .ok (.aload_n 0, 1) := by decide +kernel
theorem d_Row_put_43 : decode b_Row_put 43 = .ok (.getfield 9, 3) := by decide +kernel
theorem d_Row_put_46 : decode b_Row_put 46 = .ok (.iload_n 2, 1) := by decide +kernel
theorem d_Row_put_47 : decode b_Row_put 47 = .ok (.iconst 1, 1) := by decide +kernel
theorem d_Row_put_48 : decode b_Row_put 48 = .ok (.isub, 1) := by decide +kernel
theorem d_Row_put_49 : decode b_Row_put 49 = .ok (.iaload, 1) := by decide +kernel
theorem d_Row_put_50 : decode b_Row_put 50 = .ok (.iastore, 1) := by decide +kernel
theorem d_Row_put_51 : decode b_Row_put 51 = .ok (.iinc 2 (-1), 3) := by decide +kernel
theorem d_Row_put_54 : decode b_Row_put 54 = .ok (.goto (-36), 3) := by decide +kernel
theorem d_Row_removeOldest_0 : decode b_Row_removeOldest 0 = .ok (.aload_n 0, 1) := by decide +kernel
theorem d_Row_removeOldest_1 : decode b_Row_removeOldest 1 = .ok (.getfield 15, 3) := by decide +kernel
theorem d_Row_removeOldest_4 : decode b_Row_removeOldest 4 = .ok (.iload_n 1, 1) := by decide +kernel
theorem d_Row_removeOldest_5 : decode b_Row_removeOldest 5 = .ok (.isub, 1) := by decide +kernel
theorem d_Row_removeOldest_6 : decode b_Row_removeOldest 6 = .ok (.istore_n 2, 1) := by decide +kernel
theorem d_Row_removeOldest_7 : decode b_Row_removeOldest 7 = .ok (.iload_n 1, 1) := by decide +kernel
theorem d_Row_removeOldest_8 : decode b_Row_removeOldest 8 = .ok (.ifCond .lt 7, 3) := by decide +kernel
theorem d_Row_removeOldest_11 : decode b_Row_removeOldest 11 = .ok (.iload_n 2, 1) := by decide +kernel
theorem d_Row_removeOldest_12 : decode b_Row_removeOldest 12 = .ok (.ifCond .ge 4, 3) := by decide +kernel
theorem d_Row_removeOldest_16 : decode b_Row_removeOldest 16 = .ok (.aload_n 0, 1) := by decide +kernel
theorem d_Row_removeOldest_17 : decode b_Row_removeOldest 17 = .ok (.getfield 9, 3) := by decide +kernel
theorem d_Row_removeOldest_20 : decode b_Row_removeOldest 20 = .ok (.iload_n 1, 1) := by decide +kernel
theorem d_Row_removeOldest_21 : decode b_Row_removeOldest 21 = .ok (.aload_n 0, 1) := by decide +kernel
theorem d_Row_removeOldest_22 : decode b_Row_removeOldest 22 = .ok (.getfield 9, 3) := by decide +kernel
theorem d_Row_removeOldest_25 : decode b_Row_removeOldest 25 = .ok (.iconst 0, 1) := by decide +kernel
theorem d_Row_removeOldest_26 : decode b_Row_removeOldest 26 = .ok (.iload_n 2, 1) := by decide +kernel
theorem d_Row_removeOldest_27 : decode b_Row_removeOldest 27 = .ok (.invokestatic 29, 3) := by decide +kernel
theorem d_Row_removeOldest_30 : decode b_Row_removeOldest 30 = .ok (.aload_n 0, 1) := by decide +kernel
theorem d_Row_removeOldest_31 : decode b_Row_removeOldest 31 = .ok (.iload_n 2, 1) := by decide +kernel
theorem d_Row_removeOldest_32 : decode b_Row_removeOldest 32 = .ok (.putfield 15, 3) := by decide +kernel
theorem d_Row_removeOldest_35 : decode b_Row_removeOldest 35 = .ok (.return_, 1) := by decide +kernel
theorem d_X_letGo_0 : decode b_X_letGo 0 = .ok (.aload_n 0, 1) := by decide +kernel
theorem d_X_letGo_1 : decode b_X_letGo 1 = .ok (.iload_n 1, 1) := by decide +kernel
theorem d_X_letGo_2 : decode b_X_letGo 2 = .ok (.invokevirtual 60, 3) := by decide +kernel
theorem d_X_letGo_5 : decode b_X_letGo 5 = .ok (.astore_n 2, 1) := by decide +kernel
theorem d_X_letGo_6 : decode b_X_letGo 6 = .ok (.aload_n 2, 1) := by decide +kernel
theorem d_X_letGo_7 : decode b_X_letGo 7 = .ok (.aload_n 0, 1) := by decide +kernel
theorem d_X_letGo_8 : decode b_X_letGo 8 = .ok (.getfield 52, 3) := by decide +kernel
theorem d_X_letGo_11 : decode b_X_letGo 11 = .ok (.ifCond .eq 7, 3) := by decide +kernel
theorem d_X_letGo_18 : decode b_X_letGo 18 = .ok (.iconst 4, 1) := by decide +kernel
theorem d_X_letGo_19 : decode b_X_letGo 19 = .ok (.putfield 64, 3) := by decide +kernel
theorem d_X_letGo_22 : decode b_X_letGo 22 = .ok (.aload_n 0, 1) := by decide +kernel
theorem d_X_letGo_23 : decode b_X_letGo 23 = .ok (.getfield 138, 3) := by decide +kernel
theorem d_X_letGo_26 : decode b_X_letGo 26 = .ok (.aload_n 0, 1) := by decide +kernel
theorem d_X_letGo_27 : decode b_X_letGo 27 = .ok (.getfield 35, 3) := by decide +kernel
theorem d_X_letGo_30 : decode b_X_letGo 30 = .ok (.arraylength, 1) := by decide +kernel
theorem d_X_letGo_31 : decode b_X_letGo 31 = .ok (.if_icmp .ge 23, 3) := by decide +kernel
theorem d_X_letGo_54 : decode b_X_letGo 54 = .ok (.return_, 1) := by decide +kernel
theorem d_X_letGo_34 : decode b_X_letGo 34 = .ok (.aload_n 0, 1) := by decide +kernel
theorem d_X_letGo_35 : decode b_X_letGo 35 = .ok (.getfield 35, 3) := by decide +kernel
theorem d_X_letGo_38 : decode b_X_letGo 38 = .ok (.aload_n 0, 1) := by decide +kernel
theorem d_X_letGo_39 : decode b_X_letGo 39 = .ok (.getfield 138, 3) := by decide +kernel
theorem d_X_letGo_42 : decode b_X_letGo 42 = .ok (.iload_n 1, 1) := by decide +kernel
theorem d_X_letGo_43 : decode b_X_letGo 43 = .ok (.iastore, 1) := by decide +kernel
theorem d_X_letGo_44 : decode b_X_letGo 44 = .ok (.aload_n 0, 1) := by decide +kernel
theorem d_X_letGo_45 : decode b_X_letGo 45 = .ok (.dup, 1) := by decide +kernel
theorem d_X_letGo_46 : decode b_X_letGo 46 = .ok (.getfield 138, 3) := by decide +kernel
theorem d_X_letGo_49 : decode b_X_letGo 49 = .ok (.iconst 1, 1) := by decide +kernel
theorem d_X_letGo_50 : decode b_X_letGo 50 = .ok (.iadd, 1) := by decide +kernel
theorem d_X_letGo_51 : decode b_X_letGo 51 = .ok (.putfield 138, 3) := by decide +kernel
theorem d_X_letGo_14 : decode b_X_letGo 14 = .ok (.iconst 0, 1) := by decide +kernel
theorem d_X_letGo_15 : decode b_X_letGo 15 = .ok (.goto 4, 3) := by decide +kernel
