theorem d_X_placeFor_0 : decode b_X_placeFor 0 = .ok (.aload_n 0, 1) := by decide +kernel
theorem d_X_placeFor_1 : decode b_X_placeFor 1 = .ok (.iload_n 1, 1) := by decide +kernel
theorem d_X_placeFor_2 : decode b_X_placeFor 2 = .ok (.invokevirtual 60, 3) := by decide +kernel
theorem d_X_placeFor_5 : decode b_X_placeFor 5 = .ok (.astore_n 2, 1) := by decide +kernel
theorem d_X_placeFor_6 : decode b_X_placeFor 6 = .ok (.aload_n 2, 1) := by decide +kernel
theorem d_X_placeFor_7 : decode b_X_placeFor 7 = .ok (.getfield 166, 3) := by decide +kernel
theorem d_X_placeFor_10 : decode b_X_placeFor 10 = .ok (.iload_n 1, 1) := by decide +kernel
theorem d_X_placeFor_11 : decode b_X_placeFor 11 = .ok (.if_icmp .eq 21, 3) := by decide +kernel
theorem d_X_placeFor_14 : decode b_X_placeFor 14 = .ok (.new 26, 3) := by decide +kernel
theorem d_X_placeFor_17 : decode b_X_placeFor 17 = .ok (.dup, 1) := by decide +kernel
theorem d_X_placeFor_18 : decode b_X_placeFor 18 = .ok (.iload_n 1, 1) := by decide +kernel
theorem d_X_placeFor_19 : decode b_X_placeFor 19 = .ok (.invokespecial 28, 3) := by decide +kernel
theorem d_X_placeFor_22 : decode b_X_placeFor 22 = .ok (.astore_n 2, 1) := by decide +kernel
theorem d_X_placeFor_23 : decode b_X_placeFor 23 = .ok (.aload_n 0, 1) := by decide +kernel
theorem d_X_placeFor_24 : decode b_X_placeFor 24 = .ok (.getfield 23, 3) := by decide +kernel
theorem d_X_placeFor_27 : decode b_X_placeFor 27 = .ok (.aload_n 2, 1) := by decide +kernel
theorem d_X_placeFor_28 : decode b_X_placeFor 28 = .ok (.invokevirtual 96, 3) := by decide +kernel
theorem d_X_placeFor_31 : decode b_X_placeFor 31 = .ok (.pop, 1) := by decide +kernel
theorem d_X_placeFor_32 : decode b_X_placeFor 32 = .ok (.aload_n 2, 1) := by decide +kernel
theorem d_X_placeFor_33 : decode b_X_placeFor 33 = .ok (.areturn, 1) := by decide +kernel
theorem d_Row_put_0 : decode b_Row_put 0 = .ok (.aload_n 0, 1) := by decide +kernel
theorem d_Row_put_1 : decode b_Row_put 1 = .ok (.getfield 15, 3) := by decide +kernel
theorem d_Row_put_4 : decode b_Row_put 4 = .ok (.aload_n 0, 1) := by decide +kernel
theorem d_Row_put_5 : decode b_Row_put 5 = .ok (.getfield 9, 3) := by decide +kernel
theorem d_Row_put_8 : decode b_Row_put 8 = .ok (.arraylength, 1) := by decide +kernel
theorem d_Row_put_9 : decode b_Row_put 9 = .ok (.if_icmp .lt 4, 3) := by decide +kernel
theorem d_Row_put_13 : decode b_Row_put 13 = .ok (.aload_n 0, 1) := by decide +kernel
theorem d_Row_put_14 : decode b_Row_put 14 = .ok (.getfield 15, 3) := by decide +kernel
theorem d_Row_put_17 : decode b_Row_put 17 = .ok (.istore_n 2, 1) := by decide +kernel
theorem d_Row_put_18 : decode b_Row_put 18 = .ok (.iload_n 2, 1) := by decide +kernel
theorem d_Row_put_19 : decode b_Row_put 19 = .ok (.ifCond .le 38, 3) := by decide +kernel
theorem d_Row_put_57 : decode b_Row_put 57 = .ok (.aload_n 0, 1) := by decide +kernel
theorem d_Row_put_58 : decode b_Row_put 58 = .ok (.getfield 9, 3) := by decide +kernel
theorem d_Row_put_61 : decode b_Row_put 61 = .ok (.iload_n 2, 1) := by decide +kernel
theorem d_Row_put_62 : decode b_Row_put 62 = .ok (.iload_n 1, 1) := by decide +kernel
theorem d_Row_put_63 : decode b_Row_put 63 = .ok (.iastore, 1) := by decide +kernel
theorem d_Row_put_64 : decode b_Row_put 64 = .ok (.aload_n 0, 1) := by decide +kernel
theorem d_Row_put_65 : decode b_Row_put 65 = .ok (.dup, 1) := by decide +kernel
theorem d_Row_put_66 : decode b_Row_put 66 = .ok (.getfield 15, 3) := by decide +kernel
theorem d_Row_put_69 : decode b_Row_put 69 = .ok (.iconst 1, 1) := by decide +kernel
theorem d_Row_put_70 : decode b_Row_put 70 = .ok (.iadd, 1) := by decide +kernel
theorem d_Row_put_71 : decode b_Row_put 71 = .ok (.putfield 15, 3) := by decide +kernel
theorem d_Row_put_74 : decode b_Row_put 74 = .ok (.return_, 1) := by decide +kernel
theorem d_X_holdToLimit_0 : decode b_X_holdToLimit 0 = .ok (.aload_n 0, 1) := by decide +kernel
theorem d_X_holdToLimit_1 : decode b_X_holdToLimit 1 = .ok (.getfield 10, 3) := by decide +kernel
theorem d_X_holdToLimit_4 : decode b_X_holdToLimit 4 = .ok (.getfield 81, 3) := by decide +kernel
theorem d_X_holdToLimit_7 : decode b_X_holdToLimit 7 = .ok (.aload_n 0, 1) := by decide +kernel
theorem d_X_holdToLimit_8 : decode b_X_holdToLimit 8 = .ok (.getfield 48, 3) := by decide +kernel
theorem d_X_holdToLimit_11 : decode b_X_holdToLimit 11 = .ok (.if_icmp .gt 4, 3) := by decide +kernel
theorem d_X_holdToLimit_14 : decode b_X_holdToLimit 14 = .ok (.return_, 1) := by decide +kernel
theorem d_X_bringIntoRow_0 : decode b_X_bringIntoRow 0 = .ok (.aload_n 1, 1) := by decide +kernel
theorem d_X_bringIntoRow_1 : decode b_X_bringIntoRow 1 = .ok (.iconst 1, 1) := by decide +kernel
theorem d_X_bringIntoRow_2 : decode b_X_bringIntoRow 2 = .ok (.putfield 64, 3) := by decide +kernel
theorem d_X_bringIntoRow_5 : decode b_X_bringIntoRow 5 = .ok (.aload_n 0, 1) := by decide +kernel
theorem d_X_bringIntoRow_6 : decode b_X_bringIntoRow 6 = .ok (.getfield 10, 3) := by decide +kernel
theorem d_X_bringIntoRow_9 : decode b_X_bringIntoRow 9 = .ok (.aload_n 1, 1) := by decide +kernel
theorem d_X_bringIntoRow_10 : decode b_X_bringIntoRow 10 = .ok (.getfield 166, 3) := by decide +kernel
theorem d_X_bringIntoRow_13 : decode b_X_bringIntoRow 13 = .ok (.invokevirtual 169, 3) := by decide +kernel
theorem d_X_bringIntoRow_16 : decode b_X_bringIntoRow 16 = .ok (.aload_n 0, 1) := by decide +kernel
theorem d_X_bringIntoRow_17 : decode b_X_bringIntoRow 17 = .ok (.invokevirtual 172, 3) := by decide +kernel
theorem d_X_bringIntoRow_20 : decode b_X_bringIntoRow 20 = .ok (.return_, 1) := by decide +kernel
theorem d_X_catalogue_0 : decode b_X_catalogue 0 = .ok (.iload_n 1, 1) := by decide +kernel
theorem d_X_catalogue_1 : decode b_X_catalogue 1 = .ok (.invokestatic 56, 3) := by decide +kernel
theorem d_X_catalogue_4 : decode b_X_catalogue 4 = .ok (.ifCond .ne 5, 3) := by decide +kernel
theorem d_X_catalogue_9 : decode b_X_catalogue 9 = .ok (.aload_n 0, 1) := by decide +kernel
theorem d_X_catalogue_10 : decode b_X_catalogue 10 = .ok (.iload_n 1, 1) := by decide +kernel
theorem d_X_catalogue_11 : decode b_X_catalogue 11 = .ok (.invokevirtual 60, 3) := by decide +kernel
theorem d_X_catalogue_14 : decode b_X_catalogue 14 = .ok (.astore_n 2, 1) := by decide +kernel
theorem d_X_catalogue_15 : decode b_X_catalogue 15 = .ok (.aload_n 2, 1) := by decide +kernel
theorem d_X_catalogue_16 : decode b_X_catalogue 16 = .ok (.getfield 64, 3) := by decide +kernel
theorem d_X_catalogue_19 : decode b_X_catalogue 19 = .ok (.iconst 1, 1) := by decide +kernel
theorem d_X_catalogue_20 : decode b_X_catalogue 20 = .ok (.if_icmp .eq 10, 3) := by decide +kernel
theorem d_X_catalogue_23 : decode b_X_catalogue 23 = .ok (.aload_n 2, 1) := by decide +kernel
theorem d_X_catalogue_24 : decode b_X_catalogue 24 = .ok (.invokevirtual 67, 3) := by decide +kernel
theorem d_X_catalogue_27 : decode b_X_catalogue 27 = .ok (.ifCond .eq 5, 3) := by decide +kernel
theorem d_X_catalogue_32 : decode b_X_catalogue 32 = .ok (.aload_n 2, 1) := by decide +kernel
theorem d_X_catalogue_33 : decode b_X_catalogue 33 = .ok (.getfield 64, 3) := by decide +kernel
theorem d_X_catalogue_36 : decode b_X_catalogue 36 = .ok (.ifCond .ne 14, 3) := by decide +kernel
theorem d_X_catalogue_39 : decode b_X_catalogue 39 = .ok (.aload_n 0, 1) := by decide +kernel
theorem d_X_catalogue_40 : decode b_X_catalogue 40 = .ok (.iload_n 1, 1) := by decide +kernel
theorem d_X_catalogue_41 : decode b_X_catalogue 41 = .ok (.invokevirtual 71, 3) := by decide +kernel
theorem d_X_catalogue_44 : decode b_X_catalogue 44 = .ok (.astore_n 2, 1) := by decide +kernel
theorem d_X_catalogue_45 : decode b_X_catalogue 45 = .ok (.aload_n 2, 1) := by decide +kernel
theorem d_X_catalogue_46 : decode b_X_catalogue 46 = .ok (.iconst 0, 1) := by decide +kernel
theorem d_X_catalogue_47 : decode b_X_catalogue 47 = .ok (.invokevirtual 74, 3) := by decide +kernel
theorem d_X_catalogue_50 : decode b_X_catalogue 50 = .ok (.aload_n 0, 1) := by decide +kernel
theorem d_X_catalogue_51 : decode b_X_catalogue 51 = .ok (.aload_n 2, 1) := by decide +kernel
theorem d_X_catalogue_52 : decode b_X_catalogue 52 = .ok (.invokevirtual 77, 3) := by decide +kernel
theorem d_X_catalogue_55 : decode b_X_catalogue 55 = .ok (.aload_n 0, 1) := by decide +kernel
theorem d_X_catalogue_56 : decode b_X_catalogue 56 = .ok (.getfield 10, 3) := by decide +kernel
theorem d_X_catalogue_59 : decode b_X_catalogue 59 = .ok (.getfield 81, 3) := by decide +kernel
theorem d_X_catalogue_62 : decode b_X_catalogue 62 = .ok (.ireturn, 1) := by decide +kernel
theorem d_X_catalogue_7 : decode b_X_catalogue 7 = .ok (.iconst (-1), 1) := by decide +kernel
theorem d_X_catalogue_8 : decode b_X_catalogue 8 = .ok (.ireturn, 1) := by decide +kernel
