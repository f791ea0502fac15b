theorem d_ArraysSupport_newLength_0 : decode b_ArraysSupport_newLength 0 = .ok (.iload_n 0, 1) := by decide +kernel
theorem d_ArraysSupport_newLength_1 : decode b_ArraysSupport_newLength 1 = .ok (.iload_n 1, 1) := by decide +kernel
theorem d_ArraysSupport_newLength_2 : decode b_ArraysSupport_newLength 2 = .ok (.iload_n 2, 1) := by decide +kernel
theorem d_ArraysSupport_newLength_3 : decode b_ArraysSupport_newLength 3 = .ok (.invokestatic 194, 3) := by decide +kernel
theorem d_ArraysSupport_newLength_6 : decode b_ArraysSupport_newLength 6 = .ok (.iadd, 1) := by decide +kernel
theorem d_ArraysSupport_newLength_7 : decode b_ArraysSupport_newLength 7 = .ok (.istore_n 3, 1) := by decide +kernel
theorem d_ArraysSupport_newLength_8 : decode b_ArraysSupport_newLength 8 = .ok (.iconst 0, 1) := by decide +kernel
theorem d_ArraysSupport_newLength_9 : decode b_ArraysSupport_newLength 9 = .ok (.iload_n 3, 1) := by decide +kernel
theorem d_ArraysSupport_newLength_10 : decode b_ArraysSupport_newLength 10 = .ok (.if_icmp .ge 11, 3) := by decide +kernel
theorem d_ArraysSupport_newLength_13 : decode b_ArraysSupport_newLength 13 = .ok (.iload_n 3, 1) := by decide +kernel
theorem d_ArraysSupport_newLength_14 : decode b_ArraysSupport_newLength 14 = .ok (.ldc 200, 2) := by decide +kernel
theorem d_ArraysSupport_newLength_16 : decode b_ArraysSupport_newLength 16 = .ok (.if_icmp .gt 5, 3) := by decide +kernel
theorem d_ArraysSupport_newLength_19 : decode b_ArraysSupport_newLength 19 = .ok (.iload_n 3, 1) := by decide +kernel
theorem d_ArraysSupport_newLength_20 : decode b_ArraysSupport_newLength 20 = .ok (.ireturn, 1) := by decide +kernel
theorem d_Ars_copyOf_0 : decode b_Ars_copyOf 0 = .ok (.aload_n 2, 1) := by decide +kernel
theorem d_Ars_copyOf_1 : decode b_Ars_copyOf 1 = .ok (.ldc 110, 2) := by decide +kernel
theorem d_Ars_copyOf_3 : decode b_Ars_copyOf 3 = .ok (.if_acmp .ne 10, 3) := by decide +kernel
theorem d_Ars_copyOf_6 : decode b_Ars_copyOf 6 = .ok (.iload_n 1, 1) := by decide +kernel
theorem d_Ars_copyOf_7 : decode b_Ars_copyOf 7 = .ok (.anewarray 2, 3) := by decide +kernel
theorem d_Ars_copyOf_10 : decode b_Ars_copyOf 10 = .ok (.goto 14, 3) := by decide +kernel
theorem d_Ars_copyOf_24 : decode b_Ars_copyOf 24 = .ok (.astore_n 3, 1) := by decide +kernel
theorem d_Ars_copyOf_25 : decode b_Ars_copyOf 25 = .ok (.aload_n 0, 1) := by decide +kernel
theorem d_Ars_copyOf_26 : decode b_Ars_copyOf 26 = .ok (.iconst 0, 1) := by decide +kernel
theorem d_Ars_copyOf_27 : decode b_Ars_copyOf 27 = .ok (.aload_n 3, 1) := by decide +kernel
theorem d_Ars_copyOf_28 : decode b_Ars_copyOf 28 = .ok (.iconst 0, 1) := by decide +kernel
theorem d_Ars_copyOf_29 : decode b_Ars_copyOf 29 = .ok (.aload_n 0, 1) := by decide +kernel
theorem d_Ars_copyOf_30 : decode b_Ars_copyOf 30 = .ok (.arraylength, 1) := by decide +kernel
theorem d_Ars_copyOf_31 : decode b_Ars_copyOf 31 = .ok (.iload_n 1, 1) := by decide +kernel
theorem d_Ars_copyOf_32 : decode b_Ars_copyOf 32 = .ok (.invokestatic 304, 3) := by decide +kernel
theorem d_Ars_copyOf_35 : decode b_Ars_copyOf 35 = .ok (.invokestatic 150, 3) := by decide +kernel
theorem d_Ars_copyOf_38 : decode b_Ars_copyOf 38 = .ok (.aload_n 3, 1) := by decide +kernel
theorem d_Ars_copyOf_39 : decode b_Ars_copyOf 39 = .ok (.areturn, 1) := by decide +kernel
theorem d_Ars_copyOf2_0 : decode b_Ars_copyOf2 0 = .ok (.aload_n 0, 1) := by decide +kernel
theorem d_Ars_copyOf2_1 : decode b_Ars_copyOf2 1 = .ok (.iload_n 1, 1) := by decide +kernel
theorem d_Ars_copyOf2_2 : decode b_Ars_copyOf2 2 = .ok (.aload_n 0, 1) := by decide +kernel
theorem d_Ars_copyOf2_3 : decode b_Ars_copyOf2 3 = .ok (.invokevirtual 86, 3) := by decide +kernel
theorem d_Ars_copyOf2_6 : decode b_Ars_copyOf2 6 = .ok (.invokestatic 300, 3) := by decide +kernel
theorem d_Ars_copyOf2_9 : decode b_Ars_copyOf2 9 = .ok (.areturn, 1) := by decide +kernel
theorem d_AL_grow_20 : decode b_AL_grow 20 = .ok (.iload_n 2, 1) := by decide +kernel
theorem d_AL_grow_21 : decode b_AL_grow 21 = .ok (.iload_n 1, 1) := by decide +kernel
theorem d_AL_grow_22 : decode b_AL_grow 22 = .ok (.iload_n 2, 1) := by decide +kernel
theorem d_AL_grow_23 : decode b_AL_grow 23 = .ok (.isub, 1) := by decide +kernel
theorem d_AL_grow_24 : decode b_AL_grow 24 = .ok (.iload_n 2, 1) := by decide +kernel
theorem d_AL_grow_25 : decode b_AL_grow 25 = .ok (.iconst 1, 1) := by decide +kernel
theorem d_AL_grow_26 : decode b_AL_grow 26 = .ok (.ishr, 1) := by decide +kernel
theorem d_AL_grow_27 : decode b_AL_grow 27 = .ok (.invokestatic 73, 3) := by decide +kernel
theorem d_AL_grow_30 : decode b_AL_grow 30 = .ok (.istore_n 3, 1) := by decide +kernel
theorem d_AL_grow_31 : decode b_AL_grow 31 = .ok (.aload_n 0, 1) := by decide +kernel
theorem d_AL_grow_32 : decode b_AL_grow 32 = .ok (.aload_n 0, 1) := by decide +kernel
theorem d_AL_grow_33 : decode b_AL_grow 33 = .ok (.getfield 9, 3) := by decide +kernel
theorem d_AL_grow_36 : decode b_AL_grow 36 = .ok (.iload_n 3, 1) := by decide +kernel
theorem d_AL_grow_37 : decode b_AL_grow 37 = .ok (.invokestatic 66, 3) := by decide +kernel
theorem d_AL_grow_40 : decode b_AL_grow 40 = .ok (.dup_x1, 1) := by decide +kernel
theorem d_AL_grow_41 : decode b_AL_grow 41 = .ok (.putfield 9, 3) := by decide +kernel
theorem d_AL_grow_44 : decode b_AL_grow 44 = .ok (.areturn, 1) := by decide +kernel
