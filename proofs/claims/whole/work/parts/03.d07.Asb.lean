theorem d_Asb_init_0 : decode b_Asb_init 0 = .ok (.aload_n 0, 1) := by decide +kernel
theorem d_Asb_init_1 : decode b_Asb_init 1 = .ok (.invokespecial 3, 3) := by decide +kernel
theorem d_Asb_init_4 : decode b_Asb_init 4 = .ok (.getstatic 18, 3) := by decide +kernel
theorem d_Asb_init_7 : decode b_Asb_init 7 = .ok (.ifCond .eq 18, 3) := by decide +kernel
theorem d_Asb_init_10 : decode b_Asb_init 10 = .ok (.aload_n 0, 1) := by decide +kernel
theorem d_Asb_init_11 : decode b_Asb_init 11 = .ok (.iload_n 1, 1) := by decide +kernel
theorem d_Asb_init_12 : decode b_Asb_init 12 = .ok (.newarray .byte, 2) := by decide +kernel
theorem d_Asb_init_14 : decode b_Asb_init 14 = .ok (.putfield 15, 3) := by decide +kernel
theorem d_Asb_init_17 : decode b_Asb_init 17 = .ok (.aload_n 0, 1) := by decide +kernel
theorem d_Asb_init_18 : decode b_Asb_init 18 = .ok (.iconst 0, 1) := by decide +kernel
theorem d_Asb_init_19 : decode b_Asb_init 19 = .ok (.putfield 22, 3) := by decide +kernel
theorem d_Asb_init_22 : decode b_Asb_init 22 = .ok (.goto 16, 3) := by decide +kernel
theorem d_Asb_init_25 : decode b_Asb_init 25 = .ok (.aload_n 0, 1) := by decide +kernel
theorem d_Asb_init_26 : decode b_Asb_init 26 = .ok (.iload_n 1, 1) := by decide +kernel
theorem d_Asb_init_27 : decode b_Asb_init 27 = .ok (.invokestatic 26, 3) := by decide +kernel
theorem d_Asb_init_30 : decode b_Asb_init 30 = .ok (.putfield 15, 3) := by decide +kernel
theorem d_Asb_init_33 : decode b_Asb_init 33 = .ok (.aload_n 0, 1) := by decide +kernel
theorem d_Asb_init_34 : decode b_Asb_init 34 = .ok (.iconst 1, 1) := by decide +kernel
theorem d_Asb_init_35 : decode b_Asb_init 35 = .ok (.putfield 22, 3) := by decide +kernel
theorem d_Asb_init_38 : decode b_Asb_init 38 = .ok (.return_, 1) := by decide +kernel
theorem d_Asb_setLength_0 : decode b_Asb_setLength 0 = .ok (.iload_n 1, 1) := by decide +kernel
theorem d_Asb_setLength_1 : decode b_Asb_setLength 1 = .ok (.ifCond .ge 12, 3) := by decide +kernel
theorem d_Asb_setLength_4 : decode b_Asb_setLength 4 = .ok (.new 129, 3) := by decide +kernel
theorem d_Asb_setLength_7 : decode b_Asb_setLength 7 = .ok (.dup, 1) := by decide +kernel
theorem d_Asb_setLength_8 : decode b_Asb_setLength 8 = .ok (.iload_n 1, 1) := by decide +kernel
theorem d_Asb_setLength_9 : decode b_Asb_setLength 9 = .ok (.invokespecial 131, 3) := by decide +kernel
theorem d_Asb_setLength_12 : decode b_Asb_setLength 12 = .ok (.athrow, 1) := by decide +kernel
theorem d_Asb_setLength_13 : decode b_Asb_setLength 13 = .ok (.aload_n 0, 1) := by decide +kernel
theorem d_Asb_setLength_14 : decode b_Asb_setLength 14 = .ok (.iload_n 1, 1) := by decide +kernel
theorem d_Asb_setLength_15 : decode b_Asb_setLength 15 = .ok (.invokevirtual 100, 3) := by decide +kernel
theorem d_Asb_setLength_18 : decode b_Asb_setLength 18 = .ok (.aload_n 0, 1) := by decide +kernel
theorem d_Asb_setLength_19 : decode b_Asb_setLength 19 = .ok (.getfield 79, 3) := by decide +kernel
theorem d_Asb_setLength_22 : decode b_Asb_setLength 22 = .ok (.iload_n 1, 1) := by decide +kernel
theorem d_Asb_setLength_23 : decode b_Asb_setLength 23 = .ok (.if_icmp .ge 40, 3) := by decide +kernel
theorem d_Asb_setLength_26 : decode b_Asb_setLength 26 = .ok (.aload_n 0, 1) := by decide +kernel
theorem d_Asb_setLength_27 : decode b_Asb_setLength 27 = .ok (.invokevirtual 83, 3) := by decide +kernel
theorem d_Asb_setLength_30 : decode b_Asb_setLength 30 = .ok (.ifCond .eq 18, 3) := by decide +kernel
theorem d_Asb_setLength_33 : decode b_Asb_setLength 33 = .ok (.aload_n 0, 1) := by decide +kernel
theorem d_Asb_setLength_34 : decode b_Asb_setLength 34 = .ok (.getfield 15, 3) := by decide +kernel
theorem d_Asb_setLength_37 : decode b_Asb_setLength 37 = .ok (.aload_n 0, 1) := by decide +kernel
theorem d_Asb_setLength_38 : decode b_Asb_setLength 38 = .ok (.getfield 79, 3) := by decide +kernel
theorem d_Asb_setLength_41 : decode b_Asb_setLength 41 = .ok (.iload_n 1, 1) := by decide +kernel
theorem d_Asb_setLength_42 : decode b_Asb_setLength 42 = .ok (.invokestatic 133, 3) := by decide +kernel
theorem d_Asb_setLength_45 : decode b_Asb_setLength 45 = .ok (.goto 31, 3) := by decide +kernel
theorem d_Asb_setLength_48 : decode b_Asb_setLength 48 = .ok (.aload_n 0, 1) := by decide +kernel
theorem d_Asb_setLength_49 : decode b_Asb_setLength 49 = .ok (.getfield 15, 3) := by decide +kernel
theorem d_Asb_setLength_52 : decode b_Asb_setLength 52 = .ok (.aload_n 0, 1) := by decide +kernel
theorem d_Asb_setLength_53 : decode b_Asb_setLength 53 = .ok (.getfield 79, 3) := by decide +kernel
theorem d_Asb_setLength_56 : decode b_Asb_setLength 56 = .ok (.iload_n 1, 1) := by decide +kernel
theorem d_Asb_setLength_57 : decode b_Asb_setLength 57 = .ok (.invokestatic 137, 3) := by decide +kernel
theorem d_Asb_setLength_60 : decode b_Asb_setLength 60 = .ok (.goto 16, 3) := by decide +kernel
theorem d_Asb_setLength_63 : decode b_Asb_setLength 63 = .ok (.aload_n 0, 1) := by decide +kernel
theorem d_Asb_setLength_64 : decode b_Asb_setLength 64 = .ok (.getfield 79, 3) := by decide +kernel
theorem d_Asb_setLength_67 : decode b_Asb_setLength 67 = .ok (.iload_n 1, 1) := by decide +kernel
theorem d_Asb_setLength_68 : decode b_Asb_setLength 68 = .ok (.if_icmp .le 8, 3) := by decide +kernel
theorem d_Asb_setLength_71 : decode b_Asb_setLength 71 = .ok (.aload_n 0, 1) := by decide +kernel
theorem d_Asb_setLength_72 : decode b_Asb_setLength 72 = .ok (.iconst 1, 1) := by decide +kernel
theorem d_Asb_setLength_73 : decode b_Asb_setLength 73 = .ok (.putfield 73, 3) := by decide +kernel
theorem d_Asb_setLength_76 : decode b_Asb_setLength 76 = .ok (.aload_n 0, 1) := by decide +kernel
theorem d_Asb_setLength_77 : decode b_Asb_setLength 77 = .ok (.iload_n 1, 1) := by decide +kernel
theorem d_Asb_setLength_78 : decode b_Asb_setLength 78 = .ok (.putfield 79, 3) := by decide +kernel
theorem d_Asb_setLength_81 : decode b_Asb_setLength 81 = .ok (.return_, 1) := by decide +kernel
theorem d_Asb_ensureCapacityInternal_0 : decode b_Asb_ensureCapacityInternal 0 = .ok (.aload_n 0, 1) := by decide +kernel
theorem d_Asb_ensureCapacityInternal_1 : decode b_Asb_ensureCapacityInternal 1 = .ok (.getfield 15, 3) := by decide +kernel
theorem d_Asb_ensureCapacityInternal_4 : decode b_Asb_ensureCapacityInternal 4 = .ok (.arraylength, 1) := by decide +kernel
theorem d_Asb_ensureCapacityInternal_5 : decode b_Asb_ensureCapacityInternal 5 = .ok (.aload_n 0, 1) := by decide +kernel
theorem d_Asb_ensureCapacityInternal_6 : decode b_Asb_ensureCapacityInternal 6 = .ok (.getfield 22, 3) := by decide +kernel
theorem d_Asb_ensureCapacityInternal_9 : decode b_Asb_ensureCapacityInternal 9 = .ok (.ishr, 1) := by decide +kernel
theorem d_Asb_ensureCapacityInternal_10 : decode b_Asb_ensureCapacityInternal 10 = .ok (.istore_n 2, 1) := by decide +kernel
theorem d_Asb_ensureCapacityInternal_11 : decode b_Asb_ensureCapacityInternal 11 = .ok (.iload_n 1, 1) := by decide +kernel
theorem d_Asb_ensureCapacityInternal_12 : decode b_Asb_ensureCapacityInternal 12 = .ok (.iload_n 2, 1) := by decide +kernel
theorem d_Asb_ensureCapacityInternal_13 : decode b_Asb_ensureCapacityInternal 13 = .ok (.isub, 1) := by decide +kernel
theorem d_Asb_ensureCapacityInternal_14 : decode b_Asb_ensureCapacityInternal 14 = .ok (.ifCond .le 24, 3) := by decide +kernel
theorem d_Asb_ensureCapacityInternal_17 : decode b_Asb_ensureCapacityInternal 17 = .ok (.aload_n 0, 1) := by decide +kernel
theorem d_Asb_ensureCapacityInternal_18 : decode b_Asb_ensureCapacityInternal 18 = .ok (.aload_n 0, 1) := by decide +kernel
theorem d_Asb_ensureCapacityInternal_19 : decode b_Asb_ensureCapacityInternal 19 = .ok (.getfield 15, 3) := by decide +kernel
theorem d_Asb_ensureCapacityInternal_22 : decode b_Asb_ensureCapacityInternal 22 = .ok (.aload_n 0, 1) := by decide +kernel
theorem d_Asb_ensureCapacityInternal_23 : decode b_Asb_ensureCapacityInternal 23 = .ok (.iload_n 1, 1) := by decide +kernel
theorem d_Asb_ensureCapacityInternal_24 : decode b_Asb_ensureCapacityInternal 24 = .ok (.invokevirtual 104, 3) := by decide +kernel
theorem d_Asb_ensureCapacityInternal_27 : decode b_Asb_ensureCapacityInternal 27 = .ok (.aload_n 0, 1) := by decide +kernel
theorem d_Asb_ensureCapacityInternal_28 : decode b_Asb_ensureCapacityInternal 28 = .ok (.getfield 22, 3) := by decide +kernel
theorem d_Asb_ensureCapacityInternal_31 : decode b_Asb_ensureCapacityInternal 31 = .ok (.ishl, 1) := by decide +kernel
theorem d_Asb_ensureCapacityInternal_32 : decode b_Asb_ensureCapacityInternal 32 = .ok (.invokestatic 108, 3) := by decide +kernel
theorem d_Asb_ensureCapacityInternal_35 : decode b_Asb_ensureCapacityInternal 35 = .ok (.putfield 15, 3) := by decide +kernel
theorem d_Asb_ensureCapacityInternal_38 : decode b_Asb_ensureCapacityInternal 38 = .ok (.return_, 1) := by decide +kernel
theorem d_Asb_newCapacity_0 : decode b_Asb_newCapacity 0 = .ok (.aload_n 0, 1) := by decide +kernel
theorem d_Asb_newCapacity_1 : decode b_Asb_newCapacity 1 = .ok (.getfield 15, 3) := by decide +kernel
theorem d_Asb_newCapacity_4 : decode b_Asb_newCapacity 4 = .ok (.arraylength, 1) := by decide +kernel
theorem d_Asb_newCapacity_5 : decode b_Asb_newCapacity 5 = .ok (.istore_n 2, 1) := by decide +kernel
theorem d_Asb_newCapacity_6 : decode b_Asb_newCapacity 6 = .ok (.iload_n 1, 1) := by decide +kernel
theorem d_Asb_newCapacity_7 : decode b_Asb_newCapacity 7 = .ok (.aload_n 0, 1) := by decide +kernel
theorem d_Asb_newCapacity_8 : decode b_Asb_newCapacity 8 = .ok (.getfield 22, 3) := by decide +kernel
theorem d_Asb_newCapacity_11 : decode b_Asb_newCapacity 11 = .ok (.ishl, 1) := by decide +kernel
theorem d_Asb_newCapacity_12 : decode b_Asb_newCapacity 12 = .ok (.istore_n 3, 1) := by decide +kernel
theorem d_Asb_newCapacity_13 : decode b_Asb_newCapacity 13 = .ok (.iload_n 3, 1) := by decide +kernel
theorem d_Asb_newCapacity_14 : decode b_Asb_newCapacity 14 = .ok (.iload_n 2, 1) := by decide +kernel
theorem d_Asb_newCapacity_15 : decode b_Asb_newCapacity 15 = .ok (.isub, 1) := by decide +kernel
theorem d_Asb_newCapacity_16 : decode b_Asb_newCapacity 16 = .ok (.istore 4, 2) := by decide +kernel
theorem d_Asb_newCapacity_18 : decode b_Asb_newCapacity 18 = .ok (.iload_n 2, 1) := by decide +kernel
theorem d_Asb_newCapacity_19 : decode b_Asb_newCapacity 19 = .ok (.iload 4, 2) := by decide +kernel
theorem d_Asb_newCapacity_21 : decode b_Asb_newCapacity 21 = .ok (.iload_n 2, 1) := by decide +kernel
theorem d_Asb_newCapacity_22 : decode b_Asb_newCapacity 22 = .ok (.iconst 2, 1) := by decide +kernel
theorem d_Asb_newCapacity_23 : decode b_Asb_newCapacity 23 = .ok (.aload_n 0, 1) := by decide +kernel
theorem d_Asb_newCapacity_24 : decode b_Asb_newCapacity 24 = .ok (.getfield 22, 3) := by decide +kernel
theorem d_Asb_newCapacity_27 : decode b_Asb_newCapacity 27 = .ok (.ishl, 1) := by decide +kernel
theorem d_Asb_newCapacity_28 : decode b_Asb_newCapacity 28 = .ok (.iadd, 1) := by decide +kernel
theorem d_Asb_newCapacity_29 : decode b_Asb_newCapacity 29 = .ok (.invokestatic 114, 3) := by decide +kernel
theorem d_Asb_newCapacity_32 : decode b_Asb_newCapacity 32 = .ok (.istore 5, 2) := by decide +kernel
theorem d_Asb_newCapacity_34 : decode b_Asb_newCapacity 34 = .ok (.iload 5, 2) := by decide +kernel
theorem d_Asb_newCapacity_36 : decode b_Asb_newCapacity 36 = .ok (.ldc 39, 2) := by decide +kernel
theorem d_Asb_newCapacity_38 : decode b_Asb_newCapacity 38 = .ok (.if_icmp .ne 13, 3) := by decide +kernel
theorem d_Asb_newCapacity_41 : decode b_Asb_newCapacity 41 = .ok (.new 120, 3) := by decide +kernel
theorem d_Asb_newCapacity_44 : decode b_Asb_newCapacity 44 = .ok (.dup, 1) := by decide +kernel
theorem d_Asb_newCapacity_45 : decode b_Asb_newCapacity 45 = .ok (.ldc 122, 2) := by decide +kernel
theorem d_Asb_newCapacity_47 : decode b_Asb_newCapacity 47 = .ok (.invokespecial 124, 3) := by decide +kernel
theorem d_Asb_newCapacity_50 : decode b_Asb_newCapacity 50 = .ok (.athrow, 1) := by decide +kernel
theorem d_Asb_newCapacity_51 : decode b_Asb_newCapacity 51 = .ok (.iload 5, 2) := by decide +kernel
theorem d_Asb_newCapacity_53 : decode b_Asb_newCapacity 53 = .ok (.aload_n 0, 1) := by decide +kernel
theorem d_Asb_newCapacity_54 : decode b_Asb_newCapacity 54 = .ok (.getfield 22, 3) := by decide +kernel
theorem d_Asb_newCapacity_57 : decode b_Asb_newCapacity 57 = .ok (.ishr, 1) := by decide +kernel
theorem d_Asb_newCapacity_58 : decode b_Asb_newCapacity 58 = .ok (.ireturn, 1) := by decide +kernel
theorem d_Asb_isLatin1_0 : decode b_Asb_isLatin1 0 = .ok (.getstatic 18, 3) := by decide +kernel
theorem d_Asb_isLatin1_3 : decode b_Asb_isLatin1 3 = .ok (.ifCond .eq 14, 3) := by decide +kernel
theorem d_Asb_isLatin1_6 : decode b_Asb_isLatin1 6 = .ok (.aload_n 0, 1) := by decide +kernel
theorem d_Asb_isLatin1_7 : decode b_Asb_isLatin1 7 = .ok (.getfield 22, 3) := by decide +kernel
theorem d_Asb_isLatin1_10 : decode b_Asb_isLatin1 10 = .ok (.ifCond .ne 7, 3) := by decide +kernel
theorem d_Asb_isLatin1_13 : decode b_Asb_isLatin1 13 = .ok (.iconst 1, 1) := by decide +kernel
theorem d_Asb_isLatin1_14 : decode b_Asb_isLatin1 14 = .ok (.goto 4, 3) := by decide +kernel
theorem d_Asb_isLatin1_17 : decode b_Asb_isLatin1 17 = .ok (.iconst 0, 1) := by decide +kernel
theorem d_Asb_isLatin1_18 : decode b_Asb_isLatin1 18 = .ok (.ireturn, 1) := by decide +kernel
theorem d_Asb_append1_0 : decode b_Asb_append1 0 = .ok (.aload_n 0, 1) := by decide +kernel
theorem d_Asb_append1_1 : decode b_Asb_append1 1 = .ok (.getfield 79, 3) := by decide +kernel
theorem d_Asb_append1_4 : decode b_Asb_append1 4 = .ok (.istore_n 2, 1) := by decide +kernel
theorem d_Asb_append1_5 : decode b_Asb_append1 5 = .ok (.iload_n 2, 1) := by decide +kernel
theorem d_Asb_append1_6 : decode b_Asb_append1 6 = .ok (.iload_n 1, 1) := by decide +kernel
theorem d_Asb_append1_7 : decode b_Asb_append1 7 = .ok (.invokestatic 245, 3) := by decide +kernel
theorem d_Asb_append1_10 : decode b_Asb_append1 10 = .ok (.iadd, 1) := by decide +kernel
theorem d_Asb_append1_11 : decode b_Asb_append1 11 = .ok (.istore_n 3, 1) := by decide +kernel
theorem d_Asb_append1_12 : decode b_Asb_append1 12 = .ok (.aload_n 0, 1) := by decide +kernel
theorem d_Asb_append1_13 : decode b_Asb_append1 13 = .ok (.iload_n 3, 1) := by decide +kernel
theorem d_Asb_append1_14 : decode b_Asb_append1 14 = .ok (.invokevirtual 100, 3) := by decide +kernel
theorem d_Asb_append1_17 : decode b_Asb_append1 17 = .ok (.aload_n 0, 1) := by decide +kernel
theorem d_Asb_append1_18 : decode b_Asb_append1 18 = .ok (.invokevirtual 83, 3) := by decide +kernel
theorem d_Asb_append1_21 : decode b_Asb_append1 21 = .ok (.ifCond .eq 16, 3) := by decide +kernel
theorem d_Asb_append1_24 : decode b_Asb_append1 24 = .ok (.iload_n 1, 1) := by decide +kernel
theorem d_Asb_append1_25 : decode b_Asb_append1 25 = .ok (.iload_n 3, 1) := by decide +kernel
theorem d_Asb_append1_26 : decode b_Asb_append1 26 = .ok (.aload_n 0, 1) := by decide +kernel
theorem d_Asb_append1_27 : decode b_Asb_append1 27 = .ok (.getfield 15, 3) := by decide +kernel
theorem d_Asb_append1_30 : decode b_Asb_append1 30 = .ok (.invokestatic 248, 3) := by decide +kernel
theorem d_Asb_append1_33 : decode b_Asb_append1 33 = .ok (.pop, 1) := by decide +kernel
theorem d_Asb_append1_34 : decode b_Asb_append1 34 = .ok (.goto 14, 3) := by decide +kernel
theorem d_Asb_append1_37 : decode b_Asb_append1 37 = .ok (.iload_n 1, 1) := by decide +kernel
theorem d_Asb_append1_38 : decode b_Asb_append1 38 = .ok (.iload_n 2, 1) := by decide +kernel
theorem d_Asb_append1_39 : decode b_Asb_append1 39 = .ok (.iload_n 3, 1) := by decide +kernel
theorem d_Asb_append1_40 : decode b_Asb_append1 40 = .ok (.aload_n 0, 1) := by decide +kernel
theorem d_Asb_append1_41 : decode b_Asb_append1 41 = .ok (.getfield 15, 3) := by decide +kernel
theorem d_Asb_append1_44 : decode b_Asb_append1 44 = .ok (.invokestatic 251, 3) := by decide +kernel
theorem d_Asb_append1_47 : decode b_Asb_append1 47 = .ok (.pop, 1) := by decide +kernel
theorem d_Asb_append1_48 : decode b_Asb_append1 48 = .ok (.aload_n 0, 1) := by decide +kernel
theorem d_Asb_append1_49 : decode b_Asb_append1 49 = .ok (.iload_n 3, 1) := by decide +kernel
theorem d_Asb_append1_50 : decode b_Asb_append1 50 = .ok (.putfield 79, 3) := by decide +kernel
theorem d_Asb_append1_53 : decode b_Asb_append1 53 = .ok (.aload_n 0, 1) := by decide +kernel
theorem d_Asb_append1_54 : decode b_Asb_append1 54 = .ok (.areturn, 1) := by decide +kernel
theorem d_Asb_append2_0 : decode b_Asb_append2 0 = .ok (.aload_n 0, 1) := by decide +kernel
theorem d_Asb_append2_1 : decode b_Asb_append2 1 = .ok (.aload_n 0, 1) := by decide +kernel
theorem d_Asb_append2_2 : decode b_Asb_append2 2 = .ok (.getfield 79, 3) := by decide +kernel
theorem d_Asb_append2_5 : decode b_Asb_append2 5 = .ok (.iconst 1, 1) := by decide +kernel
theorem d_Asb_append2_6 : decode b_Asb_append2 6 = .ok (.iadd, 1) := by decide +kernel
theorem d_Asb_append2_7 : decode b_Asb_append2 7 = .ok (.invokevirtual 100, 3) := by decide +kernel
theorem d_Asb_append2_10 : decode b_Asb_append2 10 = .ok (.aload_n 0, 1) := by decide +kernel
theorem d_Asb_append2_11 : decode b_Asb_append2 11 = .ok (.invokevirtual 83, 3) := by decide +kernel
theorem d_Asb_append2_14 : decode b_Asb_append2 14 = .ok (.ifCond .eq 31, 3) := by decide +kernel
theorem d_Asb_append2_17 : decode b_Asb_append2 17 = .ok (.iload_n 1, 1) := by decide +kernel
theorem d_Asb_append2_18 : decode b_Asb_append2 18 = .ok (.invokestatic 191, 3) := by decide +kernel
theorem d_Asb_append2_21 : decode b_Asb_append2 21 = .ok (.ifCond .eq 24, 3) := by decide +kernel
theorem d_Asb_append2_24 : decode b_Asb_append2 24 = .ok (.aload_n 0, 1) := by decide +kernel
theorem d_Asb_append2_25 : decode b_Asb_append2 25 = .ok (.getfield 15, 3) := by decide +kernel
theorem d_Asb_append2_28 : decode b_Asb_append2 28 = .ok (.aload_n 0, 1) := by decide +kernel
theorem d_Asb_append2_29 : decode b_Asb_append2 29 = .ok (.dup, 1) := by decide +kernel
theorem d_Asb_append2_30 : decode b_Asb_append2 30 = .ok (.getfield 79, 3) := by decide +kernel
theorem d_Asb_append2_33 : decode b_Asb_append2 33 = .ok (.dup_x1, 1) := by decide +kernel
theorem d_Asb_append2_34 : decode b_Asb_append2 34 = .ok (.iconst 1, 1) := by decide +kernel
theorem d_Asb_append2_35 : decode b_Asb_append2 35 = .ok (.iadd, 1) := by decide +kernel
theorem d_Asb_append2_36 : decode b_Asb_append2 36 = .ok (.putfield 79, 3) := by decide +kernel
theorem d_Asb_append2_39 : decode b_Asb_append2 39 = .ok (.iload_n 1, 1) := by decide +kernel
theorem d_Asb_append2_40 : decode b_Asb_append2 40 = .ok (.i2b, 1) := by decide +kernel
theorem d_Asb_append2_41 : decode b_Asb_append2 41 = .ok (.bastore, 1) := by decide +kernel
theorem d_Asb_append2_42 : decode b_Asb_append2 42 = .ok (.goto 33, 3) := by decide +kernel
theorem d_Asb_append2_45 : decode b_Asb_append2 45 = .ok (.aload_n 0, 1) := by decide +kernel
theorem d_Asb_append2_46 : decode b_Asb_append2 46 = .ok (.invokevirtual 83, 3) := by decide +kernel
theorem d_Asb_append2_49 : decode b_Asb_append2 49 = .ok (.ifCond .eq 7, 3) := by decide +kernel
theorem d_Asb_append2_52 : decode b_Asb_append2 52 = .ok (.aload_n 0, 1) := by decide +kernel
theorem d_Asb_append2_53 : decode b_Asb_append2 53 = .ok (.invokevirtual 195, 3) := by decide +kernel
theorem d_Asb_append2_56 : decode b_Asb_append2 56 = .ok (.aload_n 0, 1) := by decide +kernel
theorem d_Asb_append2_57 : decode b_Asb_append2 57 = .ok (.getfield 15, 3) := by decide +kernel
theorem d_Asb_append2_60 : decode b_Asb_append2 60 = .ok (.aload_n 0, 1) := by decide +kernel
theorem d_Asb_append2_61 : decode b_Asb_append2 61 = .ok (.dup, 1) := by decide +kernel
theorem d_Asb_append2_62 : decode b_Asb_append2 62 = .ok (.getfield 79, 3) := by decide +kernel
theorem d_Asb_append2_65 : decode b_Asb_append2 65 = .ok (.dup_x1, 1) := by decide +kernel
theorem d_Asb_append2_66 : decode b_Asb_append2 66 = .ok (.iconst 1, 1) := by decide +kernel
theorem d_Asb_append2_67 : decode b_Asb_append2 67 = .ok (.iadd, 1) := by decide +kernel
theorem d_Asb_append2_68 : decode b_Asb_append2 68 = .ok (.putfield 79, 3) := by decide +kernel
theorem d_Asb_append2_71 : decode b_Asb_append2 71 = .ok (.iload_n 1, 1) := by decide +kernel
theorem d_Asb_append2_72 : decode b_Asb_append2 72 = .ok (.invokestatic 197, 3) := by decide +kernel
theorem d_Asb_append2_75 : decode b_Asb_append2 75 = .ok (.aload_n 0, 1) := by decide +kernel
theorem d_Asb_append2_76 : decode b_Asb_append2 76 = .ok (.areturn, 1) := by decide +kernel
theorem d_Asb_inflate_0 : decode b_Asb_inflate 0 = .ok (.aload_n 0, 1) := by decide +kernel
theorem d_Asb_inflate_1 : decode b_Asb_inflate 1 = .ok (.invokevirtual 83, 3) := by decide +kernel
theorem d_Asb_inflate_4 : decode b_Asb_inflate 4 = .ok (.ifCond .ne 4, 3) := by decide +kernel
theorem d_Asb_inflate_7 : decode b_Asb_inflate 7 = .ok (.return_, 1) := by decide +kernel
theorem d_Asb_inflate_8 : decode b_Asb_inflate 8 = .ok (.aload_n 0, 1) := by decide +kernel
theorem d_Asb_inflate_9 : decode b_Asb_inflate 9 = .ok (.getfield 15, 3) := by decide +kernel
theorem d_Asb_inflate_12 : decode b_Asb_inflate 12 = .ok (.arraylength, 1) := by decide +kernel
theorem d_Asb_inflate_13 : decode b_Asb_inflate 13 = .ok (.invokestatic 26, 3) := by decide +kernel
theorem d_Asb_inflate_16 : decode b_Asb_inflate 16 = .ok (.astore_n 1, 1) := by decide +kernel
theorem d_Asb_inflate_17 : decode b_Asb_inflate 17 = .ok (.aload_n 0, 1) := by decide +kernel
theorem d_Asb_inflate_18 : decode b_Asb_inflate 18 = .ok (.getfield 15, 3) := by decide +kernel
theorem d_Asb_inflate_21 : decode b_Asb_inflate 21 = .ok (.iconst 0, 1) := by decide +kernel
theorem d_Asb_inflate_22 : decode b_Asb_inflate 22 = .ok (.aload_n 1, 1) := by decide +kernel
theorem d_Asb_inflate_23 : decode b_Asb_inflate 23 = .ok (.iconst 0, 1) := by decide +kernel
theorem d_Asb_inflate_24 : decode b_Asb_inflate 24 = .ok (.aload_n 0, 1) := by decide +kernel
theorem d_Asb_inflate_25 : decode b_Asb_inflate 25 = .ok (.getfield 79, 3) := by decide +kernel
theorem d_Asb_inflate_28 : decode b_Asb_inflate 28 = .ok (.invokestatic 125, 3) := by decide +kernel
theorem d_Asb_inflate_31 : decode b_Asb_inflate 31 = .ok (.aload_n 0, 1) := by decide +kernel
theorem d_Asb_inflate_32 : decode b_Asb_inflate 32 = .ok (.aload_n 1, 1) := by decide +kernel
theorem d_Asb_inflate_33 : decode b_Asb_inflate 33 = .ok (.putfield 15, 3) := by decide +kernel
theorem d_Asb_inflate_36 : decode b_Asb_inflate 36 = .ok (.aload_n 0, 1) := by decide +kernel
theorem d_Asb_inflate_37 : decode b_Asb_inflate 37 = .ok (.iconst 1, 1) := by decide +kernel
theorem d_Asb_inflate_38 : decode b_Asb_inflate 38 = .ok (.putfield 22, 3) := by decide +kernel
theorem d_Asb_inflate_41 : decode b_Asb_inflate 41 = .ok (.return_, 1) := by decide +kernel
theorem d_Asb_length_0 : decode b_Asb_length 0 = .ok (.aload_n 0, 1) := by decide +kernel
theorem d_Asb_length_1 : decode b_Asb_length 1 = .ok (.getfield 79, 3) := by decide +kernel
theorem d_Asb_length_4 : decode b_Asb_length 4 = .ok (.ireturn, 1) := by decide +kernel
theorem d_Asb_charAt_0 : decode b_Asb_charAt 0 = .ok (.aload_n 0, 1) := by decide +kernel
theorem d_Asb_charAt_1 : decode b_Asb_charAt 1 = .ok (.getfield 22, 3) := by decide +kernel
theorem d_Asb_charAt_4 : decode b_Asb_charAt 4 = .ok (.istore_n 2, 1) := by decide +kernel
theorem d_Asb_charAt_5 : decode b_Asb_charAt 5 = .ok (.aload_n 0, 1) := by decide +kernel
theorem d_Asb_charAt_6 : decode b_Asb_charAt 6 = .ok (.getfield 15, 3) := by decide +kernel
theorem d_Asb_charAt_9 : decode b_Asb_charAt 9 = .ok (.astore_n 3, 1) := by decide +kernel
theorem d_Asb_charAt_10 : decode b_Asb_charAt 10 = .ok (.aload_n 0, 1) := by decide +kernel
theorem d_Asb_charAt_11 : decode b_Asb_charAt 11 = .ok (.getfield 79, 3) := by decide +kernel
theorem d_Asb_charAt_14 : decode b_Asb_charAt 14 = .ok (.aload_n 3, 1) := by decide +kernel
theorem d_Asb_charAt_15 : decode b_Asb_charAt 15 = .ok (.arraylength, 1) := by decide +kernel
theorem d_Asb_charAt_16 : decode b_Asb_charAt 16 = .ok (.iload_n 2, 1) := by decide +kernel
theorem d_Asb_charAt_17 : decode b_Asb_charAt 17 = .ok (.ishr, 1) := by decide +kernel
theorem d_Asb_charAt_18 : decode b_Asb_charAt 18 = .ok (.invokestatic 138, 3) := by decide +kernel
theorem d_Asb_charAt_21 : decode b_Asb_charAt 21 = .ok (.istore 4, 2) := by decide +kernel
theorem d_Asb_charAt_23 : decode b_Asb_charAt 23 = .ok (.iload_n 1, 1) := by decide +kernel
theorem d_Asb_charAt_24 : decode b_Asb_charAt 24 = .ok (.iload 4, 2) := by decide +kernel
theorem d_Asb_charAt_26 : decode b_Asb_charAt 26 = .ok (.invokestatic 144, 3) := by decide +kernel
theorem d_Asb_charAt_29 : decode b_Asb_charAt 29 = .ok (.iload_n 2, 1) := by decide +kernel
theorem d_Asb_charAt_30 : decode b_Asb_charAt 30 = .ok (.ifCond .ne 12, 3) := by decide +kernel
theorem d_Asb_charAt_33 : decode b_Asb_charAt 33 = .ok (.aload_n 3, 1) := by decide +kernel
theorem d_Asb_charAt_34 : decode b_Asb_charAt 34 = .ok (.iload_n 1, 1) := by decide +kernel
theorem d_Asb_charAt_35 : decode b_Asb_charAt 35 = .ok (.baload, 1) := by decide +kernel
theorem d_Asb_charAt_36 : decode b_Asb_charAt 36 = .ok (.sipush 255, 3) := by decide +kernel
theorem d_Asb_charAt_39 : decode b_Asb_charAt 39 = .ok (.iand, 1) := by decide +kernel
theorem d_Asb_charAt_40 : decode b_Asb_charAt 40 = .ok (.i2c, 1) := by decide +kernel
theorem d_Asb_charAt_41 : decode b_Asb_charAt 41 = .ok (.ireturn, 1) := by decide +kernel
theorem d_Asb_charAt_42 : decode b_Asb_charAt 42 = .ok (.aload_n 3, 1) := by decide +kernel
theorem d_Asb_charAt_43 : decode b_Asb_charAt 43 = .ok (.iload_n 1, 1) := by decide +kernel
theorem d_Asb_charAt_44 : decode b_Asb_charAt 44 = .ok (.invokestatic 148, 3) := by decide +kernel
theorem d_Asb_charAt_47 : decode b_Asb_charAt 47 = .ok (.ireturn, 1) := by decide +kernel
