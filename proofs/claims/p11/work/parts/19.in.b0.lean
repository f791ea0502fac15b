theorem d_X_holdToLimit_0 : decode b_X_holdToLimit 0 = .ok (.aload_n 0, 1) := by decide +kernel
theorem d_X_holdToLimit_1 : decode b_X_holdToLimit 1 = .ok (.getfield 10, 3) := by decide +kernel
theorem d_X_holdToLimit_4 : decode b_X_holdToLimit 4 = .ok (.getfield 81, 3) := by decide +kernel
theorem d_X_holdToLimit_7 : decode b_X_holdToLimit 7 = .ok (.aload_n 0, 1) := by decide +kernel
theorem d_X_holdToLimit_8 : decode b_X_holdToLimit 8 = .ok (.getfield 48, 3) := by decide +kernel
theorem d_X_holdToLimit_11 : decode b_X_holdToLimit 11 = .ok (.if_icmp .gt 4, 3) := by decide +kernel
theorem d_X_holdToLimit_15 : decode b_X_holdToLimit 15 = .ok (.aload_n 0, 1) := by decide +kernel
theorem d_X_holdToLimit_16 : decode b_X_holdToLimit 16 = .ok (.getfield 155, 3) := by decide +kernel
theorem d_X_holdToLimit_19 : decode b_X_holdToLimit 19 = .ok (.ifCond .eq 15, 3) := by decide +kernel
theorem d_X_holdToLimit_34 : decode b_X_holdToLimit 34 = .ok (.aload_n 0, 1) := by decide +kernel
theorem d_X_holdToLimit_35 : decode b_X_holdToLimit 35 = .ok (.getfield 10, 3) := by decide +kernel
theorem d_X_holdToLimit_38 : decode b_X_holdToLimit 38 = .ok (.getfield 81, 3) := by decide +kernel
theorem d_X_holdToLimit_41 : decode b_X_holdToLimit 41 = .ok (.aload_n 0, 1) := by decide +kernel
theorem d_X_holdToLimit_42 : decode b_X_holdToLimit 42 = .ok (.getfield 48, 3) := by decide +kernel
theorem d_X_holdToLimit_45 : decode b_X_holdToLimit 45 = .ok (.isub, 1) := by decide +kernel
theorem d_X_holdToLimit_46 : decode b_X_holdToLimit 46 = .ok (.istore_n 1, 1) := by decide +kernel
theorem d_X_holdToLimit_47 : decode b_X_holdToLimit 47 = .ok (.iconst 0, 1) := by decide +kernel
theorem d_X_holdToLimit_48 : decode b_X_holdToLimit 48 = .ok (.istore_n 2, 1) := by decide +kernel
theorem d_X_holdToLimit_49 : decode b_X_holdToLimit 49 = .ok (.iload_n 2, 1) := by decide +kernel
theorem d_X_holdToLimit_50 : decode b_X_holdToLimit 50 = .ok (.iload_n 1, 1) := by decide +kernel
theorem d_X_holdToLimit_51 : decode b_X_holdToLimit 51 = .ok (.if_icmp .ge 21, 3) := by decide +kernel
theorem d_X_holdToLimit_72 : decode b_X_holdToLimit 72 = .ok (.aload_n 0, 1) := by decide +kernel
theorem d_X_holdToLimit_73 : decode b_X_holdToLimit 73 = .ok (.getfield 10, 3) := by decide +kernel
theorem d_X_holdToLimit_76 : decode b_X_holdToLimit 76 = .ok (.iload_n 1, 1) := by decide +kernel
theorem d_X_holdToLimit_77 : decode b_X_holdToLimit 77 = .ok (.invokevirtual 178, 3) := by decide +kernel
theorem d_X_holdToLimit_80 : decode b_X_holdToLimit 80 = .ok (.return_, 1) := by decide +kernel
theorem d_X_holdToLimit_54 : decode b_X_holdToLimit 54 = .ok (.aload_n 0, 1) := by decide +kernel
theorem d_X_holdToLimit_55 : decode b_X_holdToLimit 55 = .ok (.aload_n 0, 1) := by decide +kernel
theorem d_X_holdToLimit_56 : decode b_X_holdToLimit 56 = .ok (.getfield 10, 3) := by decide +kernel
theorem d_X_holdToLimit_59 : decode b_X_holdToLimit 59 = .ok (.iload_n 2, 1) := by decide +kernel
theorem d_X_holdToLimit_60 : decode b_X_holdToLimit 60 = .ok (.invokevirtual 149, 3) := by decide +kernel
theorem d_X_holdToLimit_63 : decode b_X_holdToLimit 63 = .ok (.invokevirtual 175, 3) := by decide +kernel
theorem d_X_holdToLimit_66 : decode b_X_holdToLimit 66 = .ok (.iinc 2 1, 3) := by decide +kernel
theorem d_X_holdToLimit_69 : decode b_X_holdToLimit 69 = .ok (.goto (-20), 3) := by decide +kernel
theorem d_X_holdToLimit_22 : decode b_X_holdToLimit 22 = .ok (.aload_n 0, 1) := by decide +kernel
theorem d_X_holdToLimit_23 : decode b_X_holdToLimit 23 = .ok (.getfield 10, 3) := by decide +kernel
theorem d_X_holdToLimit_26 : decode b_X_holdToLimit 26 = .ok (.getfield 81, 3) := by decide +kernel
theorem d_X_holdToLimit_29 : decode b_X_holdToLimit 29 = .ok (.iconst 1, 1) := by decide +kernel
theorem d_X_holdToLimit_30 : decode b_X_holdToLimit 30 = .ok (.isub, 1) := by decide +kernel
theorem d_X_holdToLimit_31 : decode b_X_holdToLimit 31 = .ok (.goto 15, 3) := by decide +kernel
theorem d_X_holdToLimit_14 : decode b_X_holdToLimit 14 = .ok (.return_, 1) := by decide +kernel
theorem d_X_bringIntoRow_0 : decode b_X_bringIntoRow 0 = .ok (.aload_n 1, 1) := by decide +kernel
theorem d_X_bringIntoRow_1 : decode b_X_bringIntoRow 1 = .ok (.iconst 1, 1) := by decide +kernel
theorem d_X_bringIntoRow_2 : decode b_X_bringIntoRow 2 = .ok (.putfield 64, 3) := by decide +kernel
theorem d_X_bringIntoRow_5 : decode b_X_bringIntoRow 5 = .ok (.aload_n 0, 1) := by decide +kernel
theorem d_X_bringIntoRow_6 : decode b_X_bringIntoRow 6 = .ok (.getfield 10, 3) := by decide +kernel
theorem d_X_bringIntoRow_9 : decode b_X_bringIntoRow 9 = .ok (.aload_n 1, 1) := by decide +kernel
theorem d_X_bringIntoRow_10 : decode b_X_bringIntoRow 10 = .ok (.getfield 166, 3) := by decide +kernel
theorem d_X_bringIntoRow_13 : decode b_X_bringIntoRow 13 = .ok (.invokevirtual 169, 3) := by decide +kernel
theorem d_X_bringIntoRow_16 : decode b_X_bringIntoRow 16 = .ok (.aload_n 0, 1) := by decide +kernel
theorem d_X_bringIntoRow_17 : decode b_X_bringIntoRow 17 = .ok (.invokevirtual 172, 3) := by decide +kernel
theorem d_X_bringIntoRow_20 : decode b_X_bringIntoRow 20 = .ok (.return_, 1) := by decide +kernel
theorem d_X_placeFor_0 : decode b_X_placeFor 0 = .ok (.aload_n 0, 1) := by decide +kernel
theorem d_X_placeFor_1 : decode b_X_placeFor 1 = .ok (.iload_n 1, 1) := by decide +kernel
theorem d_X_placeFor_2 : decode b_X_placeFor 2 = .ok (.invokevirtual 60, 3) := by decide +kernel
theorem d_X_placeFor_5 : decode b_X_placeFor 5 = .ok (.astore_n 2, 1) := by decide +kernel
theorem d_X_placeFor_6 : decode b_X_placeFor 6 = .ok (.aload_n 2, 1) := by decide +kernel
theorem d_X_placeFor_7 : decode b_X_placeFor 7 = .ok (.getfield 166, 3) := by decide +kernel
theorem d_X_placeFor_10 : decode b_X_placeFor 10 = .ok (.iload_n 1, 1) := by decide +kernel
theorem d_X_placeFor_11 : decode b_X_placeFor 11 = .ok (.if_icmp .eq 21, 3) := by decide +kernel
theorem d_X_placeFor_32 : decode b_X_placeFor 32 = .ok (.aload_n 2, 1) := by decide +kernel
theorem d_X_placeFor_33 : decode b_X_placeFor 33 = .ok (.areturn, 1) := by decide +kernel
theorem d_X_placeFor_14 : decode b_X_placeFor 14 = .ok (.new 26, 3) := by decide +kernel
theorem d_X_placeFor_17 : decode b_X_placeFor 17 = .ok (.dup, 1) := by decide +kernel
theorem d_X_placeFor_18 : decode b_X_placeFor 18 = .ok (.iload_n 1, 1) := by decide +kernel
theorem d_X_placeFor_19 : decode b_X_placeFor 19 = .ok (.invokespecial 28, 3) := by decide +kernel
theorem d_X_placeFor_22 : decode b_X_placeFor 22 = .ok (.astore_n 2, 1) := by decide +kernel
theorem d_X_placeFor_23 : decode b_X_placeFor 23 = .ok (.aload_n 0, 1) := by decide +kernel
theorem d_X_placeFor_24 : decode b_X_placeFor 24 = .ok (.getfield 23, 3) := by decide +kernel
theorem d_X_placeFor_27 : decode b_X_placeFor 27 = .ok (.aload_n 2, 1) := by decide +kernel
theorem d_X_placeFor_28 : decode b_X_placeFor 28 = .ok (.invokevirtual 96, 3) := by decide +kernel
theorem d_X_placeFor_31 : decode b_X_placeFor 31 = .ok (.pop, 1) := by decide +kernel
theorem d_X_catalogue_0 : decode b_X_catalogue 0 = .ok (.iload_n 1, 1) := by decide +kernel
theorem d_X_catalogue_1 : decode b_X_catalogue 1 = .ok (.invokestatic 56, 3) := by decide +kernel
theorem d_X_catalogue_4 : decode b_X_catalogue 4 = .ok (.ifCond .ne 5, 3) := by decide +kernel
theorem d_X_catalogue_9 : decode b_X_catalogue 9 = .ok (.aload_n 0, 1) := by decide +kernel
theorem d_X_catalogue_10 : decode b_X_catalogue 10 = .ok (.iload_n 1, 1) := by decide +kernel
theorem d_X_catalogue_11 : decode b_X_catalogue 11 = .ok (.invokevirtual 60, 3) := by decide +kernel
theorem d_X_catalogue_14 : decode b_X_catalogue 14 = .ok (.astore_n 2, 1) := by decide +kernel
theorem d_X_catalogue_15 : decode b_X_catalogue 15 = .ok (.aload_n 2, 1) := by decide +kernel
theorem d_X_catalogue_16 : decode b_X_catalogue 16 = .ok (.getfield 64, 3) := by decide +kernel
theorem d_X_catalogue_19 : decode b_X_catalogue 19 = .ok (.iconst 1, 1) := by decide +kernel
theorem d_X_catalogue_20 : decode b_X_catalogue 20 = .ok (.if_icmp .eq 10, 3) := by decide +kernel
theorem d_X_catalogue_30 : decode b_X_catalogue 30 = .ok (.iconst (-1), 1) := by decide +kernel
theorem d_X_catalogue_31 : decode b_X_catalogue 31 = .ok (.ireturn, 1) := by decide +kernel
theorem d_X_catalogue_23 : decode b_X_catalogue 23 = .ok (.aload_n 2, 1) := by decide +kernel
theorem d_X_catalogue_24 : decode b_X_catalogue 24 = .ok (.invokevirtual 67, 3) := by decide +kernel
theorem d_X_catalogue_27 : decode b_X_catalogue 27 = .ok (.ifCond .eq 5, 3) := by decide +kernel
theorem d_X_catalogue_32 : decode b_X_catalogue 32 = .ok (.aload_n 2, 1) := by decide +kernel
theorem d_X_catalogue_33 : decode b_X_catalogue 33 = .ok (.getfield 64, 3) := by decide +kernel
theorem d_X_catalogue_36 : decode b_X_catalogue 36 = .ok (.ifCond .ne 14, 3) := by decide +kernel
theorem d_X_catalogue_50 : decode b_X_catalogue 50 = .ok (.aload_n 0, 1) := by decide +kernel
theorem d_X_catalogue_51 : decode b_X_catalogue 51 = .ok (.aload_n 2, 1) := by decide +kernel
theorem d_X_catalogue_52 : decode b_X_catalogue 52 = .ok (.invokevirtual 77, 3) := by decide +kernel
theorem d_X_catalogue_55 : decode b_X_catalogue 55 = .ok (.aload_n 0, 1) := by decide +kernel
theorem d_X_catalogue_56 : decode b_X_catalogue 56 = .ok (.getfield 10, 3) := by decide +kernel
theorem d_X_catalogue_59 : decode b_X_catalogue 59 = .ok (.getfield 81, 3) := by decide +kernel
theorem d_X_catalogue_62 : decode b_X_catalogue 62 = .ok (.ireturn, 1) := by decide +kernel
theorem d_X_catalogue_39 : decode b_X_catalogue 39 = .ok (.aload_n 0, 1) := by decide +kernel
theorem d_X_catalogue_40 : decode b_X_catalogue 40 = .ok (.iload_n 1, 1) := by decide +kernel
theorem d_X_catalogue_41 : decode b_X_catalogue 41 = .ok (.invokevirtual 71, 3) := by decide +kernel
theorem d_X_catalogue_44 : decode b_X_catalogue 44 = .ok (.astore_n 2, 1) := by decide +kernel
theorem d_X_catalogue_45 : decode b_X_catalogue 45 = .ok (.aload_n 2, 1) := by decide +kernel
theorem d_X_catalogue_46 : decode b_X_catalogue 46 = .ok (.iconst 0, 1) := by decide +kernel
theorem d_X_catalogue_47 : decode b_X_catalogue 47 = .ok (.invokevirtual 74, 3) := by decide +kernel
theorem d_X_catalogue_7 : decode b_X_catalogue 7 = .ok (.iconst (-1), 1) := by decide +kernel
theorem d_X_catalogue_8 : decode b_X_catalogue 8 = .ok (.ireturn, 1) := by decide +kernel
theorem d_X_reclaim_0 : decode b_X_reclaim 0 = .ok (.aload_n 0, 1) := by decide +kernel
theorem d_X_reclaim_1 : decode b_X_reclaim 1 = .ok (.iload_n 1, 1) := by decide +kernel
theorem d_X_reclaim_2 : decode b_X_reclaim 2 = .ok (.invokevirtual 60, 3) := by decide +kernel
theorem d_X_reclaim_5 : decode b_X_reclaim 5 = .ok (.astore_n 2, 1) := by decide +kernel
theorem d_X_reclaim_6 : decode b_X_reclaim 6 = .ok (.aload_n 2, 1) := by decide +kernel
theorem d_X_reclaim_7 : decode b_X_reclaim 7 = .ok (.getfield 64, 3) := by decide +kernel
theorem d_X_reclaim_10 : decode b_X_reclaim 10 = .ok (.iconst 3, 1) := by decide +kernel
theorem d_X_reclaim_11 : decode b_X_reclaim 11 = .ok (.if_icmp .eq 13, 3) := by decide +kernel
theorem d_X_reclaim_24 : decode b_X_reclaim 24 = .ok (.aload_n 2, 1) := by decide +kernel
theorem d_X_reclaim_25 : decode b_X_reclaim 25 = .ok (.dup, 1) := by decide +kernel
theorem d_X_reclaim_26 : decode b_X_reclaim 26 = .ok (.getfield 152, 3) := by decide +kernel
theorem d_X_reclaim_29 : decode b_X_reclaim 29 = .ok (.iconst 1, 1) := by decide +kernel
theorem d_X_reclaim_30 : decode b_X_reclaim 30 = .ok (.iadd, 1) := by decide +kernel
