theorem d_Cell_init_0 : decode b_Cell_init 0 = .ok (.aload_n 0, 1) := by decide +kernel
theorem d_Cell_init_1 : decode b_Cell_init 1 = .ok (.invokespecial 1, 3) := by decide +kernel
theorem d_Cell_init_4 : decode b_Cell_init 4 = .ok (.return_, 1) := by decide +kernel
theorem d_Cell_addStep_0 : decode b_Cell_addStep 0 = .ok (.aload_n 0, 1) := by decide +kernel
theorem d_Cell_addStep_1 : decode b_Cell_addStep 1 = .ok (.getfield 7, 3) := by decide +kernel
theorem d_Cell_addStep_4 : decode b_Cell_addStep 4 = .ok (.bipush 30, 2) := by decide +kernel
theorem d_Cell_addStep_6 : decode b_Cell_addStep 6 = .ok (.if_icmp .ge 41, 3) := by decide +kernel
theorem d_Cell_addStep_9 : decode b_Cell_addStep 9 = .ok (.iload_n 1, 1) := by decide +kernel
theorem d_Cell_addStep_10 : decode b_Cell_addStep 10 = .ok (.i2l, 1) := by decide +kernel
theorem d_Cell_addStep_11 : decode b_Cell_addStep 11 = .ok (.lconst 1, 1) := by decide +kernel
theorem d_Cell_addStep_12 : decode b_Cell_addStep 12 = .ok (.ldc2_w 13, 3) := by decide +kernel
theorem d_Cell_addStep_15 : decode b_Cell_addStep 15 = .ok (.invokestatic 15, 3) := by decide +kernel
theorem d_Cell_addStep_18 : decode b_Cell_addStep 18 = .ok (.ifCond .eq 29, 3) := by decide +kernel
theorem d_Cell_addStep_21 : decode b_Cell_addStep 21 = .ok (.iload_n 2, 1) := by decide +kernel
theorem d_Cell_addStep_22 : decode b_Cell_addStep 22 = .ok (.i2l, 1) := by decide +kernel
theorem d_Cell_addStep_23 : decode b_Cell_addStep 23 = .ok (.ldc2_w 21, 3) := by decide +kernel
theorem d_Cell_addStep_26 : decode b_Cell_addStep 26 = .ok (.ldc2_w 13, 3) := by decide +kernel
theorem d_Cell_addStep_29 : decode b_Cell_addStep 29 = .ok (.invokestatic 15, 3) := by decide +kernel
theorem d_Cell_addStep_32 : decode b_Cell_addStep 32 = .ok (.ifCond .eq 15, 3) := by decide +kernel
theorem d_Cell_addStep_35 : decode b_Cell_addStep 35 = .ok (.iload_n 3, 1) := by decide +kernel
theorem d_Cell_addStep_36 : decode b_Cell_addStep 36 = .ok (.i2l, 1) := by decide +kernel
theorem d_Cell_addStep_37 : decode b_Cell_addStep 37 = .ok (.lconst 0, 1) := by decide +kernel
theorem d_Cell_addStep_38 : decode b_Cell_addStep 38 = .ok (.ldc2_w 23, 3) := by decide +kernel
theorem d_Cell_addStep_41 : decode b_Cell_addStep 41 = .ok (.invokestatic 15, 3) := by decide +kernel
theorem d_Cell_addStep_44 : decode b_Cell_addStep 44 = .ok (.ifCond .ne 5, 3) := by decide +kernel
theorem d_Cell_addStep_47 : decode b_Cell_addStep 47 = .ok (.iconst 0, 1) := by decide +kernel
theorem d_Cell_addStep_48 : decode b_Cell_addStep 48 = .ok (.ireturn, 1) := by decide +kernel
theorem d_Cell_addStep_49 : decode b_Cell_addStep 49 = .ok (.aload_n 0, 1) := by decide +kernel
theorem d_Cell_addStep_50 : decode b_Cell_addStep 50 = .ok (.getfield 7, 3) := by decide +kernel
theorem d_Cell_addStep_53 : decode b_Cell_addStep 53 = .ok (.ifCond .le 37, 3) := by decide +kernel
theorem d_Cell_addStep_56 : decode b_Cell_addStep 56 = .ok (.iload_n 2, 1) := by decide +kernel
theorem d_Cell_addStep_57 : decode b_Cell_addStep 57 = .ok (.aload_n 0, 1) := by decide +kernel
theorem d_Cell_addStep_58 : decode b_Cell_addStep 58 = .ok (.getfield 25, 3) := by decide +kernel
theorem d_Cell_addStep_61 : decode b_Cell_addStep 61 = .ok (.if_icmp .eq 29, 3) := by decide +kernel
theorem d_Cell_addStep_64 : decode b_Cell_addStep 64 = .ok (.aload_n 0, 1) := by decide +kernel
theorem d_Cell_addStep_65 : decode b_Cell_addStep 65 = .ok (.iload_n 3, 1) := by decide +kernel
theorem d_Cell_addStep_66 : decode b_Cell_addStep 66 = .ok (.aload_n 0, 1) := by decide +kernel
theorem d_Cell_addStep_67 : decode b_Cell_addStep 67 = .ok (.getfield 28, 3) := by decide +kernel
theorem d_Cell_addStep_70 : decode b_Cell_addStep 70 = .ok (.isub, 1) := by decide +kernel
theorem d_Cell_addStep_71 : decode b_Cell_addStep 71 = .ok (.invokestatic 31, 3) := by decide +kernel
theorem d_Cell_addStep_74 : decode b_Cell_addStep 74 = .ok (.putfield 37, 3) := by decide +kernel
theorem d_Cell_addStep_77 : decode b_Cell_addStep 77 = .ok (.aload_n 0, 1) := by decide +kernel
theorem d_Cell_addStep_78 : decode b_Cell_addStep 78 = .ok (.iload_n 2, 1) := by decide +kernel
theorem d_Cell_addStep_79 : decode b_Cell_addStep 79 = .ok (.aload_n 0, 1) := by decide +kernel
theorem d_Cell_addStep_80 : decode b_Cell_addStep 80 = .ok (.getfield 25, 3) := by decide +kernel
theorem d_Cell_addStep_83 : decode b_Cell_addStep 83 = .ok (.isub, 1) := by decide +kernel
theorem d_Cell_addStep_84 : decode b_Cell_addStep 84 = .ok (.invokestatic 31, 3) := by decide +kernel
theorem d_Cell_addStep_87 : decode b_Cell_addStep 87 = .ok (.putfield 40, 3) := by decide +kernel
theorem d_Cell_addStep_90 : decode b_Cell_addStep 90 = .ok (.aload_n 0, 1) := by decide +kernel
theorem d_Cell_addStep_91 : decode b_Cell_addStep 91 = .ok (.dup, 1) := by decide +kernel
theorem d_Cell_addStep_92 : decode b_Cell_addStep 92 = .ok (.getfield 43, 3) := by decide +kernel
theorem d_Cell_addStep_95 : decode b_Cell_addStep 95 = .ok (.iload_n 1, 1) := by decide +kernel
theorem d_Cell_addStep_96 : decode b_Cell_addStep 96 = .ok (.i2l, 1) := by decide +kernel
theorem d_Cell_addStep_97 : decode b_Cell_addStep 97 = .ok (.iload_n 2, 1) := by decide +kernel
theorem d_Cell_addStep_98 : decode b_Cell_addStep 98 = .ok (.i2l, 1) := by decide +kernel
theorem d_Cell_addStep_99 : decode b_Cell_addStep 99 = .ok (.lmul, 1) := by decide +kernel
theorem d_Cell_addStep_100 : decode b_Cell_addStep 100 = .ok (.ladd, 1) := by decide +kernel
theorem d_Cell_addStep_101 : decode b_Cell_addStep 101 = .ok (.putfield 43, 3) := by decide +kernel
theorem d_Cell_addStep_104 : decode b_Cell_addStep 104 = .ok (.aload_n 0, 1) := by decide +kernel
theorem d_Cell_addStep_105 : decode b_Cell_addStep 105 = .ok (.iload_n 2, 1) := by decide +kernel
theorem d_Cell_addStep_106 : decode b_Cell_addStep 106 = .ok (.putfield 25, 3) := by decide +kernel
theorem d_Cell_addStep_109 : decode b_Cell_addStep 109 = .ok (.aload_n 0, 1) := by decide +kernel
theorem d_Cell_addStep_110 : decode b_Cell_addStep 110 = .ok (.iload_n 3, 1) := by decide +kernel
theorem d_Cell_addStep_111 : decode b_Cell_addStep 111 = .ok (.putfield 28, 3) := by decide +kernel
theorem d_Cell_addStep_114 : decode b_Cell_addStep 114 = .ok (.aload_n 0, 1) := by decide +kernel
theorem d_Cell_addStep_115 : decode b_Cell_addStep 115 = .ok (.dup, 1) := by decide +kernel
theorem d_Cell_addStep_116 : decode b_Cell_addStep 116 = .ok (.getfield 7, 3) := by decide +kernel
theorem d_Cell_addStep_119 : decode b_Cell_addStep 119 = .ok (.iconst 1, 1) := by decide +kernel
theorem d_Cell_addStep_120 : decode b_Cell_addStep 120 = .ok (.iadd, 1) := by decide +kernel
theorem d_Cell_addStep_121 : decode b_Cell_addStep 121 = .ok (.putfield 7, 3) := by decide +kernel
theorem d_Cell_addStep_124 : decode b_Cell_addStep 124 = .ok (.iconst 1, 1) := by decide +kernel
theorem d_Cell_addStep_125 : decode b_Cell_addStep 125 = .ok (.ireturn, 1) := by decide +kernel
theorem d_Cell_addRest_0 : decode b_Cell_addRest 0 = .ok (.aload_n 0, 1) := by decide +kernel
theorem d_Cell_addRest_1 : decode b_Cell_addRest 1 = .ok (.getfield 47, 3) := by decide +kernel
theorem d_Cell_addRest_4 : decode b_Cell_addRest 4 = .ok (.bipush 10, 2) := by decide +kernel
theorem d_Cell_addRest_6 : decode b_Cell_addRest 6 = .ok (.if_icmp .ge 42, 3) := by decide +kernel
theorem d_Cell_addRest_9 : decode b_Cell_addRest 9 = .ok (.iload_n 1, 1) := by decide +kernel
theorem d_Cell_addRest_10 : decode b_Cell_addRest 10 = .ok (.i2l, 1) := by decide +kernel
theorem d_Cell_addRest_11 : decode b_Cell_addRest 11 = .ok (.lconst 0, 1) := by decide +kernel
theorem d_Cell_addRest_12 : decode b_Cell_addRest 12 = .ok (.ldc2_w 13, 3) := by decide +kernel
theorem d_Cell_addRest_15 : decode b_Cell_addRest 15 = .ok (.invokestatic 15, 3) := by decide +kernel
theorem d_Cell_addRest_18 : decode b_Cell_addRest 18 = .ok (.ifCond .eq 30, 3) := by decide +kernel
theorem d_Cell_addRest_21 : decode b_Cell_addRest 21 = .ok (.iload_n 2, 1) := by decide +kernel
theorem d_Cell_addRest_22 : decode b_Cell_addRest 22 = .ok (.i2l, 1) := by decide +kernel
theorem d_Cell_addRest_23 : decode b_Cell_addRest 23 = .ok (.lconst 0, 1) := by decide +kernel
theorem d_Cell_addRest_24 : decode b_Cell_addRest 24 = .ok (.ldc2_w 23, 3) := by decide +kernel
theorem d_Cell_addRest_27 : decode b_Cell_addRest 27 = .ok (.invokestatic 15, 3) := by decide +kernel
theorem d_Cell_addRest_30 : decode b_Cell_addRest 30 = .ok (.ifCond .eq 18, 3) := by decide +kernel
theorem d_Cell_addRest_33 : decode b_Cell_addRest 33 = .ok (.aload_n 0, 1) := by decide +kernel
theorem d_Cell_addRest_34 : decode b_Cell_addRest 34 = .ok (.getfield 47, 3) := by decide +kernel
theorem d_Cell_addRest_37 : decode b_Cell_addRest 37 = .ok (.ifCond .le 13, 3) := by decide +kernel
theorem d_Cell_addRest_40 : decode b_Cell_addRest 40 = .ok (.iload_n 1, 1) := by decide +kernel
theorem d_Cell_addRest_41 : decode b_Cell_addRest 41 = .ok (.aload_n 0, 1) := by decide +kernel
theorem d_Cell_addRest_42 : decode b_Cell_addRest 42 = .ok (.getfield 50, 3) := by decide +kernel
theorem d_Cell_addRest_45 : decode b_Cell_addRest 45 = .ok (.if_icmp .gt 5, 3) := by decide +kernel
theorem d_Cell_addRest_48 : decode b_Cell_addRest 48 = .ok (.iconst 0, 1) := by decide +kernel
theorem d_Cell_addRest_49 : decode b_Cell_addRest 49 = .ok (.ireturn, 1) := by decide +kernel
theorem d_Cell_addRest_50 : decode b_Cell_addRest 50 = .ok (.aload_n 0, 1) := by decide +kernel
theorem d_Cell_addRest_51 : decode b_Cell_addRest 51 = .ok (.getfield 47, 3) := by decide +kernel
theorem d_Cell_addRest_54 : decode b_Cell_addRest 54 = .ok (.ifCond .ne 13, 3) := by decide +kernel
theorem d_Cell_addRest_57 : decode b_Cell_addRest 57 = .ok (.aload_n 0, 1) := by decide +kernel
theorem d_Cell_addRest_58 : decode b_Cell_addRest 58 = .ok (.iload_n 1, 1) := by decide +kernel
theorem d_Cell_addRest_59 : decode b_Cell_addRest 59 = .ok (.putfield 53, 3) := by decide +kernel
theorem d_Cell_addRest_62 : decode b_Cell_addRest 62 = .ok (.aload_n 0, 1) := by decide +kernel
theorem d_Cell_addRest_63 : decode b_Cell_addRest 63 = .ok (.iload_n 2, 1) := by decide +kernel
theorem d_Cell_addRest_64 : decode b_Cell_addRest 64 = .ok (.putfield 56, 3) := by decide +kernel
theorem d_Cell_addRest_67 : decode b_Cell_addRest 67 = .ok (.aload_n 0, 1) := by decide +kernel
theorem d_Cell_addRest_68 : decode b_Cell_addRest 68 = .ok (.iload_n 1, 1) := by decide +kernel
theorem d_Cell_addRest_69 : decode b_Cell_addRest 69 = .ok (.putfield 50, 3) := by decide +kernel
theorem d_Cell_addRest_72 : decode b_Cell_addRest 72 = .ok (.aload_n 0, 1) := by decide +kernel
theorem d_Cell_addRest_73 : decode b_Cell_addRest 73 = .ok (.iload_n 2, 1) := by decide +kernel
theorem d_Cell_addRest_74 : decode b_Cell_addRest 74 = .ok (.putfield 59, 3) := by decide +kernel
theorem d_Cell_addRest_77 : decode b_Cell_addRest 77 = .ok (.aload_n 0, 1) := by decide +kernel
theorem d_Cell_addRest_78 : decode b_Cell_addRest 78 = .ok (.dup, 1) := by decide +kernel
theorem d_Cell_addRest_79 : decode b_Cell_addRest 79 = .ok (.getfield 47, 3) := by decide +kernel
theorem d_Cell_addRest_82 : decode b_Cell_addRest 82 = .ok (.iconst 1, 1) := by decide +kernel
theorem d_Cell_addRest_83 : decode b_Cell_addRest 83 = .ok (.iadd, 1) := by decide +kernel
theorem d_Cell_addRest_84 : decode b_Cell_addRest 84 = .ok (.putfield 47, 3) := by decide +kernel
theorem d_Cell_addRest_87 : decode b_Cell_addRest 87 = .ok (.iconst 1, 1) := by decide +kernel
theorem d_Cell_addRest_88 : decode b_Cell_addRest 88 = .ok (.ireturn, 1) := by decide +kernel
theorem d_Cell_chargeNow_0 : decode b_Cell_chargeNow 0 = .ok (.aload_n 0, 1) := by decide +kernel
theorem d_Cell_chargeNow_1 : decode b_Cell_chargeNow 1 = .ok (.getfield 43, 3) := by decide +kernel
theorem d_Cell_chargeNow_4 : decode b_Cell_chargeNow 4 = .ok (.ldc2_w 62, 3) := by decide +kernel
theorem d_Cell_chargeNow_7 : decode b_Cell_chargeNow 7 = .ok (.invokestatic 64, 3) := by decide +kernel
theorem d_Cell_chargeNow_10 : decode b_Cell_chargeNow 10 = .ok (.lreturn, 1) := by decide +kernel
theorem d_Cell_hasResistance_0 : decode b_Cell_hasResistance 0 = .ok (.aload_n 0, 1) := by decide +kernel
theorem d_Cell_hasResistance_1 : decode b_Cell_hasResistance 1 = .ok (.getfield 40, 3) := by decide +kernel
theorem d_Cell_hasResistance_4 : decode b_Cell_hasResistance 4 = .ok (.ifCond .le 7, 3) := by decide +kernel
theorem d_Cell_hasResistance_7 : decode b_Cell_hasResistance 7 = .ok (.iconst 1, 1) := by decide +kernel
theorem d_Cell_hasResistance_8 : decode b_Cell_hasResistance 8 = .ok (.goto 4, 3) := by decide +kernel
theorem d_Cell_hasResistance_11 : decode b_Cell_hasResistance 11 = .ok (.iconst 0, 1) := by decide +kernel
theorem d_Cell_hasResistance_12 : decode b_Cell_hasResistance 12 = .ok (.ireturn, 1) := by decide +kernel
theorem d_Cell_hasLoss_0 : decode b_Cell_hasLoss 0 = .ok (.aload_n 0, 1) := by decide +kernel
theorem d_Cell_hasLoss_1 : decode b_Cell_hasLoss 1 = .ok (.getfield 47, 3) := by decide +kernel
theorem d_Cell_hasLoss_4 : decode b_Cell_hasLoss 4 = .ok (.iconst 1, 1) := by decide +kernel
theorem d_Cell_hasLoss_5 : decode b_Cell_hasLoss 5 = .ok (.if_icmp .le 7, 3) := by decide +kernel
theorem d_Cell_hasLoss_8 : decode b_Cell_hasLoss 8 = .ok (.iconst 1, 1) := by decide +kernel
theorem d_Cell_hasLoss_9 : decode b_Cell_hasLoss 9 = .ok (.goto 4, 3) := by decide +kernel
theorem d_Cell_hasLoss_12 : decode b_Cell_hasLoss 12 = .ok (.iconst 0, 1) := by decide +kernel
theorem d_Cell_hasLoss_13 : decode b_Cell_hasLoss 13 = .ok (.ireturn, 1) := by decide +kernel
theorem d_Cell_voltLost_0 : decode b_Cell_voltLost 0 = .ok (.iconst 0, 1) := by decide +kernel
theorem d_Cell_voltLost_1 : decode b_Cell_voltLost 1 = .ok (.aload_n 0, 1) := by decide +kernel
theorem d_Cell_voltLost_2 : decode b_Cell_voltLost 2 = .ok (.getfield 56, 3) := by decide +kernel
theorem d_Cell_voltLost_5 : decode b_Cell_voltLost 5 = .ok (.aload_n 0, 1) := by decide +kernel
theorem d_Cell_voltLost_6 : decode b_Cell_voltLost 6 = .ok (.getfield 59, 3) := by decide +kernel
theorem d_Cell_voltLost_9 : decode b_Cell_voltLost 9 = .ok (.isub, 1) := by decide +kernel
theorem d_Cell_voltLost_10 : decode b_Cell_voltLost 10 = .ok (.invokestatic 68, 3) := by decide +kernel
theorem d_Cell_voltLost_13 : decode b_Cell_voltLost 13 = .ok (.ireturn, 1) := by decide +kernel
theorem d_Cell_daysBetween_0 : decode b_Cell_daysBetween 0 = .ok (.aload_n 0, 1) := by decide +kernel
theorem d_Cell_daysBetween_1 : decode b_Cell_daysBetween 1 = .ok (.getfield 50, 3) := by decide +kernel
theorem d_Cell_daysBetween_4 : decode b_Cell_daysBetween 4 = .ok (.aload_n 0, 1) := by decide +kernel
theorem d_Cell_daysBetween_5 : decode b_Cell_daysBetween 5 = .ok (.getfield 53, 3) := by decide +kernel
theorem d_Cell_daysBetween_8 : decode b_Cell_daysBetween 8 = .ok (.isub, 1) := by decide +kernel
theorem d_Cell_daysBetween_9 : decode b_Cell_daysBetween 9 = .ok (.ireturn, 1) := by decide +kernel
theorem d_Cell_isOpen_0 : decode b_Cell_isOpen 0 = .ok (.aload_n 0, 1) := by decide +kernel
theorem d_Cell_isOpen_1 : decode b_Cell_isOpen 1 = .ok (.getfield 7, 3) := by decide +kernel
theorem d_Cell_isOpen_4 : decode b_Cell_isOpen 4 = .ok (.ifCond .eq 10, 3) := by decide +kernel
theorem d_Cell_isOpen_7 : decode b_Cell_isOpen 7 = .ok (.aload_n 0, 1) := by decide +kernel
theorem d_Cell_isOpen_8 : decode b_Cell_isOpen 8 = .ok (.getfield 47, 3) := by decide +kernel
theorem d_Cell_isOpen_11 : decode b_Cell_isOpen 11 = .ok (.ifCond .ne 7, 3) := by decide +kernel
theorem d_Cell_isOpen_14 : decode b_Cell_isOpen 14 = .ok (.iconst 1, 1) := by decide +kernel
theorem d_Cell_isOpen_15 : decode b_Cell_isOpen 15 = .ok (.goto 4, 3) := by decide +kernel
theorem d_Cell_isOpen_18 : decode b_Cell_isOpen 18 = .ok (.iconst 0, 1) := by decide +kernel
theorem d_Cell_isOpen_19 : decode b_Cell_isOpen 19 = .ok (.ireturn, 1) := by decide +kernel
theorem d_Cell_isUnsafe_0 : decode b_Cell_isUnsafe 0 = .ok (.aload_n 0, 1) := by decide +kernel
theorem d_Cell_isUnsafe_1 : decode b_Cell_isUnsafe 1 = .ok (.getfield 47, 3) := by decide +kernel
theorem d_Cell_isUnsafe_4 : decode b_Cell_isUnsafe 4 = .ok (.ifCond .le 24, 3) := by decide +kernel
theorem d_Cell_isUnsafe_7 : decode b_Cell_isUnsafe 7 = .ok (.aload_n 0, 1) := by decide +kernel
theorem d_Cell_isUnsafe_8 : decode b_Cell_isUnsafe 8 = .ok (.getfield 59, 3) := by decide +kernel
theorem d_Cell_isUnsafe_11 : decode b_Cell_isUnsafe 11 = .ok (.i2l, 1) := by decide +kernel
theorem d_Cell_isUnsafe_12 : decode b_Cell_isUnsafe 12 = .ok (.ldc2_w 72, 3) := by decide +kernel
theorem d_Cell_isUnsafe_15 : decode b_Cell_isUnsafe 15 = .ok (.ldc2_w 74, 3) := by decide +kernel
theorem d_Cell_isUnsafe_18 : decode b_Cell_isUnsafe 18 = .ok (.invokestatic 15, 3) := by decide +kernel
theorem d_Cell_isUnsafe_21 : decode b_Cell_isUnsafe 21 = .ok (.ifCond .ne 7, 3) := by decide +kernel
theorem d_Cell_isUnsafe_24 : decode b_Cell_isUnsafe 24 = .ok (.iconst 1, 1) := by decide +kernel
theorem d_Cell_isUnsafe_25 : decode b_Cell_isUnsafe 25 = .ok (.goto 4, 3) := by decide +kernel
theorem d_Cell_isUnsafe_28 : decode b_Cell_isUnsafe 28 = .ok (.iconst 0, 1) := by decide +kernel
theorem d_Cell_isUnsafe_29 : decode b_Cell_isUnsafe 29 = .ok (.istore_n 1, 1) := by decide +kernel
theorem d_Cell_isUnsafe_30 : decode b_Cell_isUnsafe 30 = .ok (.aload_n 0, 1) := by decide +kernel
theorem d_Cell_isUnsafe_31 : decode b_Cell_isUnsafe 31 = .ok (.getfield 7, 3) := by decide +kernel
theorem d_Cell_isUnsafe_34 : decode b_Cell_isUnsafe 34 = .ok (.ifCond .le 17, 3) := by decide +kernel
theorem d_Cell_isUnsafe_37 : decode b_Cell_isUnsafe 37 = .ok (.aload_n 0, 1) := by decide +kernel
theorem d_Cell_isUnsafe_38 : decode b_Cell_isUnsafe 38 = .ok (.getfield 28, 3) := by decide +kernel
theorem d_Cell_isUnsafe_41 : decode b_Cell_isUnsafe 41 = .ok (.sipush 5000, 3) := by decide +kernel
theorem d_Cell_isUnsafe_44 : decode b_Cell_isUnsafe 44 = .ok (.if_icmp .le 7, 3) := by decide +kernel
theorem d_Cell_isUnsafe_47 : decode b_Cell_isUnsafe 47 = .ok (.iconst 1, 1) := by decide +kernel
theorem d_Cell_isUnsafe_48 : decode b_Cell_isUnsafe 48 = .ok (.goto 4, 3) := by decide +kernel
theorem d_Cell_isUnsafe_51 : decode b_Cell_isUnsafe 51 = .ok (.iconst 0, 1) := by decide +kernel
theorem d_Cell_isUnsafe_52 : decode b_Cell_isUnsafe 52 = .ok (.istore_n 2, 1) := by decide +kernel
theorem d_Cell_isUnsafe_53 : decode b_Cell_isUnsafe 53 = .ok (.iload_n 1, 1) := by decide +kernel
theorem d_Cell_isUnsafe_54 : decode b_Cell_isUnsafe 54 = .ok (.ifCond .ne 7, 3) := by decide +kernel
theorem d_Cell_isUnsafe_57 : decode b_Cell_isUnsafe 57 = .ok (.iload_n 2, 1) := by decide +kernel
theorem d_Cell_isUnsafe_58 : decode b_Cell_isUnsafe 58 = .ok (.ifCond .eq 7, 3) := by decide +kernel
theorem d_Cell_isUnsafe_61 : decode b_Cell_isUnsafe 61 = .ok (.iconst 1, 1) := by decide +kernel
theorem d_Cell_isUnsafe_62 : decode b_Cell_isUnsafe 62 = .ok (.goto 4, 3) := by decide +kernel
theorem d_Cell_isUnsafe_65 : decode b_Cell_isUnsafe 65 = .ok (.iconst 0, 1) := by decide +kernel
theorem d_Cell_isUnsafe_66 : decode b_Cell_isUnsafe 66 = .ok (.ireturn, 1) := by decide +kernel
