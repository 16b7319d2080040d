theorem d_Fade_init_0 : decode b_Fade_init 0 = .ok (.aload_n 0, 1) := by decide +kernel
theorem d_Fade_init_1 : decode b_Fade_init 1 = .ok (.invokespecial 3, 3) := by decide +kernel
theorem d_Fade_init_4 : decode b_Fade_init 4 = .ok (.aload_n 0, 1) := by decide +kernel
theorem d_Fade_init_5 : decode b_Fade_init 5 = .ok (.bipush 6, 2) := by decide +kernel
theorem d_Fade_init_7 : decode b_Fade_init 7 = .ok (.newarray .int, 2) := by decide +kernel
theorem d_Fade_init_9 : decode b_Fade_init 9 = .ok (.putfield 11, 3) := by decide +kernel
theorem d_Fade_init_12 : decode b_Fade_init 12 = .ok (.aload_n 0, 1) := by decide +kernel
theorem d_Fade_init_13 : decode b_Fade_init 13 = .ok (.bipush 6, 2) := by decide +kernel
theorem d_Fade_init_15 : decode b_Fade_init 15 = .ok (.newarray .int, 2) := by decide +kernel
theorem d_Fade_init_17 : decode b_Fade_init 17 = .ok (.putfield 15, 3) := by decide +kernel
theorem d_Fade_init_20 : decode b_Fade_init 20 = .ok (.return_, 1) := by decide +kernel
theorem d_Fade_add_0 : decode b_Fade_add 0 = .ok (.aload_n 0, 1) := by decide +kernel
theorem d_Fade_add_1 : decode b_Fade_add 1 = .ok (.getfield 18, 3) := by decide +kernel
theorem d_Fade_add_4 : decode b_Fade_add 4 = .ok (.ifCond .lt 61, 3) := by decide +kernel
theorem d_Fade_add_7 : decode b_Fade_add 7 = .ok (.aload_n 0, 1) := by decide +kernel
theorem d_Fade_add_8 : decode b_Fade_add 8 = .ok (.getfield 18, 3) := by decide +kernel
theorem d_Fade_add_11 : decode b_Fade_add 11 = .ok (.aload_n 0, 1) := by decide +kernel
theorem d_Fade_add_12 : decode b_Fade_add 12 = .ok (.getfield 11, 3) := by decide +kernel
theorem d_Fade_add_15 : decode b_Fade_add 15 = .ok (.arraylength, 1) := by decide +kernel
theorem d_Fade_add_16 : decode b_Fade_add 16 = .ok (.if_icmp .ge 49, 3) := by decide +kernel
theorem d_Fade_add_19 : decode b_Fade_add 19 = .ok (.iload_n 1, 1) := by decide +kernel
theorem d_Fade_add_20 : decode b_Fade_add 20 = .ok (.i2l, 1) := by decide +kernel
theorem d_Fade_add_21 : decode b_Fade_add 21 = .ok (.lconst 0, 1) := by decide +kernel
theorem d_Fade_add_22 : decode b_Fade_add 22 = .ok (.ldc2_w 22, 3) := by decide +kernel
theorem d_Fade_add_25 : decode b_Fade_add 25 = .ok (.invokestatic 24, 3) := by decide +kernel
theorem d_Fade_add_28 : decode b_Fade_add 28 = .ok (.ifCond .eq 37, 3) := by decide +kernel
theorem d_Fade_add_31 : decode b_Fade_add 31 = .ok (.iload_n 2, 1) := by decide +kernel
theorem d_Fade_add_32 : decode b_Fade_add 32 = .ok (.i2l, 1) := by decide +kernel
theorem d_Fade_add_33 : decode b_Fade_add 33 = .ok (.lconst 0, 1) := by decide +kernel
theorem d_Fade_add_34 : decode b_Fade_add 34 = .ok (.ldc2_w 28, 3) := by decide +kernel
theorem d_Fade_add_37 : decode b_Fade_add 37 = .ok (.invokestatic 24, 3) := by decide +kernel
theorem d_Fade_add_40 : decode b_Fade_add 40 = .ok (.ifCond .eq 25, 3) := by decide +kernel
theorem d_Fade_add_43 : decode b_Fade_add 43 = .ok (.aload_n 0, 1) := by decide +kernel
theorem d_Fade_add_44 : decode b_Fade_add 44 = .ok (.getfield 18, 3) := by decide +kernel
theorem d_Fade_add_47 : decode b_Fade_add 47 = .ok (.ifCond .le 20, 3) := by decide +kernel
theorem d_Fade_add_50 : decode b_Fade_add 50 = .ok (.iload_n 1, 1) := by decide +kernel
theorem d_Fade_add_51 : decode b_Fade_add 51 = .ok (.aload_n 0, 1) := by decide +kernel
theorem d_Fade_add_52 : decode b_Fade_add 52 = .ok (.getfield 11, 3) := by decide +kernel
theorem d_Fade_add_55 : decode b_Fade_add 55 = .ok (.aload_n 0, 1) := by decide +kernel
theorem d_Fade_add_56 : decode b_Fade_add 56 = .ok (.getfield 18, 3) := by decide +kernel
theorem d_Fade_add_59 : decode b_Fade_add 59 = .ok (.iconst 1, 1) := by decide +kernel
theorem d_Fade_add_60 : decode b_Fade_add 60 = .ok (.isub, 1) := by decide +kernel
theorem d_Fade_add_61 : decode b_Fade_add 61 = .ok (.iaload, 1) := by decide +kernel
theorem d_Fade_add_62 : decode b_Fade_add 62 = .ok (.if_icmp .gt 5, 3) := by decide +kernel
theorem d_Fade_add_65 : decode b_Fade_add 65 = .ok (.iconst 0, 1) := by decide +kernel
theorem d_Fade_add_66 : decode b_Fade_add 66 = .ok (.ireturn, 1) := by decide +kernel
theorem d_Fade_add_67 : decode b_Fade_add 67 = .ok (.aload_n 0, 1) := by decide +kernel
theorem d_Fade_add_68 : decode b_Fade_add 68 = .ok (.getfield 11, 3) := by decide +kernel
theorem d_Fade_add_71 : decode b_Fade_add 71 = .ok (.aload_n 0, 1) := by decide +kernel
theorem d_Fade_add_72 : decode b_Fade_add 72 = .ok (.getfield 18, 3) := by decide +kernel
theorem d_Fade_add_75 : decode b_Fade_add 75 = .ok (.iload_n 1, 1) := by decide +kernel
theorem d_Fade_add_76 : decode b_Fade_add 76 = .ok (.iastore, 1) := by decide +kernel
theorem d_Fade_add_77 : decode b_Fade_add 77 = .ok (.aload_n 0, 1) := by decide +kernel
theorem d_Fade_add_78 : decode b_Fade_add 78 = .ok (.getfield 15, 3) := by decide +kernel
theorem d_Fade_add_81 : decode b_Fade_add 81 = .ok (.aload_n 0, 1) := by decide +kernel
theorem d_Fade_add_82 : decode b_Fade_add 82 = .ok (.getfield 18, 3) := by decide +kernel
theorem d_Fade_add_85 : decode b_Fade_add 85 = .ok (.iload_n 2, 1) := by decide +kernel
theorem d_Fade_add_86 : decode b_Fade_add 86 = .ok (.iastore, 1) := by decide +kernel
theorem d_Fade_add_87 : decode b_Fade_add 87 = .ok (.aload_n 0, 1) := by decide +kernel
theorem d_Fade_add_88 : decode b_Fade_add 88 = .ok (.dup, 1) := by decide +kernel
theorem d_Fade_add_89 : decode b_Fade_add 89 = .ok (.getfield 18, 3) := by decide +kernel
theorem d_Fade_add_92 : decode b_Fade_add 92 = .ok (.iconst 1, 1) := by decide +kernel
theorem d_Fade_add_93 : decode b_Fade_add 93 = .ok (.iadd, 1) := by decide +kernel
theorem d_Fade_add_94 : decode b_Fade_add 94 = .ok (.putfield 18, 3) := by decide +kernel
theorem d_Fade_add_97 : decode b_Fade_add 97 = .ok (.iconst 1, 1) := by decide +kernel
theorem d_Fade_add_98 : decode b_Fade_add 98 = .ok (.ireturn, 1) := by decide +kernel
theorem d_Fade_leftOf_0 : decode b_Fade_leftOf 0 = .ok (.lload_n 1, 1) := by decide +kernel
theorem d_Fade_leftOf_1 : decode b_Fade_leftOf 1 = .ok (.lstore 4, 2) := by decide +kernel
theorem d_Fade_leftOf_3 : decode b_Fade_leftOf 3 = .ok (.iconst 0, 1) := by decide +kernel
theorem d_Fade_leftOf_4 : decode b_Fade_leftOf 4 = .ok (.istore 6, 2) := by decide +kernel
theorem d_Fade_leftOf_6 : decode b_Fade_leftOf 6 = .ok (.iload 6, 2) := by decide +kernel
theorem d_Fade_leftOf_8 : decode b_Fade_leftOf 8 = .ok (.aload_n 0, 1) := by decide +kernel
theorem d_Fade_leftOf_9 : decode b_Fade_leftOf 9 = .ok (.getfield 18, 3) := by decide +kernel
theorem d_Fade_leftOf_12 : decode b_Fade_leftOf 12 = .ok (.if_icmp .ge 85, 3) := by decide +kernel
theorem d_Fade_leftOf_15 : decode b_Fade_leftOf 15 = .ok (.iload 6, 2) := by decide +kernel
theorem d_Fade_leftOf_17 : decode b_Fade_leftOf 17 = .ok (.aload_n 0, 1) := by decide +kernel
theorem d_Fade_leftOf_18 : decode b_Fade_leftOf 18 = .ok (.getfield 11, 3) := by decide +kernel
theorem d_Fade_leftOf_21 : decode b_Fade_leftOf 21 = .ok (.arraylength, 1) := by decide +kernel
theorem d_Fade_leftOf_22 : decode b_Fade_leftOf 22 = .ok (.if_icmp .ge 75, 3) := by decide +kernel
theorem d_Fade_leftOf_25 : decode b_Fade_leftOf 25 = .ok (.iload 6, 2) := by decide +kernel
theorem d_Fade_leftOf_27 : decode b_Fade_leftOf 27 = .ok (.iconst 1, 1) := by decide +kernel
theorem d_Fade_leftOf_28 : decode b_Fade_leftOf 28 = .ok (.iadd, 1) := by decide +kernel
theorem d_Fade_leftOf_29 : decode b_Fade_leftOf 29 = .ok (.aload_n 0, 1) := by decide +kernel
theorem d_Fade_leftOf_30 : decode b_Fade_leftOf 30 = .ok (.getfield 18, 3) := by decide +kernel
theorem d_Fade_leftOf_33 : decode b_Fade_leftOf 33 = .ok (.if_icmp .ge 27, 3) := by decide +kernel
theorem d_Fade_leftOf_36 : decode b_Fade_leftOf 36 = .ok (.iload 6, 2) := by decide +kernel
theorem d_Fade_leftOf_38 : decode b_Fade_leftOf 38 = .ok (.iconst 1, 1) := by decide +kernel
theorem d_Fade_leftOf_39 : decode b_Fade_leftOf 39 = .ok (.iadd, 1) := by decide +kernel
theorem d_Fade_leftOf_40 : decode b_Fade_leftOf 40 = .ok (.aload_n 0, 1) := by decide +kernel
theorem d_Fade_leftOf_41 : decode b_Fade_leftOf 41 = .ok (.getfield 11, 3) := by decide +kernel
theorem d_Fade_leftOf_44 : decode b_Fade_leftOf 44 = .ok (.arraylength, 1) := by decide +kernel
theorem d_Fade_leftOf_45 : decode b_Fade_leftOf 45 = .ok (.if_icmp .ge 15, 3) := by decide +kernel
theorem d_Fade_leftOf_48 : decode b_Fade_leftOf 48 = .ok (.aload_n 0, 1) := by decide +kernel
theorem d_Fade_leftOf_49 : decode b_Fade_leftOf 49 = .ok (.getfield 11, 3) := by decide +kernel
theorem d_Fade_leftOf_52 : decode b_Fade_leftOf 52 = .ok (.iload 6, 2) := by decide +kernel
theorem d_Fade_leftOf_54 : decode b_Fade_leftOf 54 = .ok (.iconst 1, 1) := by decide +kernel
theorem d_Fade_leftOf_55 : decode b_Fade_leftOf 55 = .ok (.iadd, 1) := by decide +kernel
theorem d_Fade_leftOf_56 : decode b_Fade_leftOf 56 = .ok (.iaload, 1) := by decide +kernel
theorem d_Fade_leftOf_57 : decode b_Fade_leftOf 57 = .ok (.goto 4, 3) := by decide +kernel
theorem d_Fade_leftOf_60 : decode b_Fade_leftOf 60 = .ok (.iload_n 3, 1) := by decide +kernel
theorem d_Fade_leftOf_61 : decode b_Fade_leftOf 61 = .ok (.istore 7, 2) := by decide +kernel
theorem d_Fade_leftOf_63 : decode b_Fade_leftOf 63 = .ok (.lload 4, 2) := by decide +kernel
theorem d_Fade_leftOf_65 : decode b_Fade_leftOf 65 = .ok (.aload_n 0, 1) := by decide +kernel
theorem d_Fade_leftOf_66 : decode b_Fade_leftOf 66 = .ok (.getfield 15, 3) := by decide +kernel
theorem d_Fade_leftOf_69 : decode b_Fade_leftOf 69 = .ok (.iload 6, 2) := by decide +kernel
theorem d_Fade_leftOf_71 : decode b_Fade_leftOf 71 = .ok (.iaload, 1) := by decide +kernel
theorem d_Fade_leftOf_72 : decode b_Fade_leftOf 72 = .ok (.iload 7, 2) := by decide +kernel
theorem d_Fade_leftOf_74 : decode b_Fade_leftOf 74 = .ok (.iload_n 3, 1) := by decide +kernel
theorem d_Fade_leftOf_75 : decode b_Fade_leftOf 75 = .ok (.invokestatic 30, 3) := by decide +kernel
theorem d_Fade_leftOf_78 : decode b_Fade_leftOf 78 = .ok (.aload_n 0, 1) := by decide +kernel
theorem d_Fade_leftOf_79 : decode b_Fade_leftOf 79 = .ok (.getfield 11, 3) := by decide +kernel
theorem d_Fade_leftOf_82 : decode b_Fade_leftOf 82 = .ok (.iload 6, 2) := by decide +kernel
theorem d_Fade_leftOf_84 : decode b_Fade_leftOf 84 = .ok (.iaload, 1) := by decide +kernel
theorem d_Fade_leftOf_85 : decode b_Fade_leftOf 85 = .ok (.isub, 1) := by decide +kernel
theorem d_Fade_leftOf_86 : decode b_Fade_leftOf 86 = .ok (.invokestatic 36, 3) := by decide +kernel
theorem d_Fade_leftOf_89 : decode b_Fade_leftOf 89 = .ok (.lstore 4, 2) := by decide +kernel
theorem d_Fade_leftOf_91 : decode b_Fade_leftOf 91 = .ok (.iinc 6 1, 3) := by decide +kernel
theorem d_Fade_leftOf_94 : decode b_Fade_leftOf 94 = .ok (.goto (-88), 3) := by decide +kernel
theorem d_Fade_leftOf_97 : decode b_Fade_leftOf 97 = .ok (.lload 4, 2) := by decide +kernel
theorem d_Fade_leftOf_99 : decode b_Fade_leftOf 99 = .ok (.lreturn, 1) := by decide +kernel
theorem d_Fade_fadeBy_0 : decode b_Fade_fadeBy 0 = .ok (.lload_n 0, 1) := by decide +kernel
theorem d_Fade_fadeBy_1 : decode b_Fade_fadeBy 1 = .ok (.lstore 4, 2) := by decide +kernel
theorem d_Fade_fadeBy_3 : decode b_Fade_fadeBy 3 = .ok (.iconst 0, 1) := by decide +kernel
theorem d_Fade_fadeBy_4 : decode b_Fade_fadeBy 4 = .ok (.istore 6, 2) := by decide +kernel
theorem d_Fade_fadeBy_6 : decode b_Fade_fadeBy 6 = .ok (.iload 6, 2) := by decide +kernel
theorem d_Fade_fadeBy_8 : decode b_Fade_fadeBy 8 = .ok (.iload_n 3, 1) := by decide +kernel
theorem d_Fade_fadeBy_9 : decode b_Fade_fadeBy 9 = .ok (.if_icmp .ge 37, 3) := by decide +kernel
theorem d_Fade_fadeBy_12 : decode b_Fade_fadeBy 12 = .ok (.lload 4, 2) := by decide +kernel
theorem d_Fade_fadeBy_14 : decode b_Fade_fadeBy 14 = .ok (.iload_n 2, 1) := by decide +kernel
theorem d_Fade_fadeBy_15 : decode b_Fade_fadeBy 15 = .ok (.i2l, 1) := by decide +kernel
theorem d_Fade_fadeBy_16 : decode b_Fade_fadeBy 16 = .ok (.lmul, 1) := by decide +kernel
theorem d_Fade_fadeBy_17 : decode b_Fade_fadeBy 17 = .ok (.ldc2_w 28, 3) := by decide +kernel
theorem d_Fade_fadeBy_20 : decode b_Fade_fadeBy 20 = .ok (.ldiv, 1) := by decide +kernel
theorem d_Fade_fadeBy_21 : decode b_Fade_fadeBy 21 = .ok (.lstore 7, 2) := by decide +kernel
theorem d_Fade_fadeBy_23 : decode b_Fade_fadeBy 23 = .ok (.lload 7, 2) := by decide +kernel
theorem d_Fade_fadeBy_25 : decode b_Fade_fadeBy 25 = .ok (.lconst 0, 1) := by decide +kernel
theorem d_Fade_fadeBy_26 : decode b_Fade_fadeBy 26 = .ok (.lcmp, 1) := by decide +kernel
theorem d_Fade_fadeBy_27 : decode b_Fade_fadeBy 27 = .ok (.ifCond .ne 6, 3) := by decide +kernel
theorem d_Fade_fadeBy_30 : decode b_Fade_fadeBy 30 = .ok (.lload 4, 2) := by decide +kernel
theorem d_Fade_fadeBy_32 : decode b_Fade_fadeBy 32 = .ok (.lreturn, 1) := by decide +kernel
theorem d_Fade_fadeBy_33 : decode b_Fade_fadeBy 33 = .ok (.lload 4, 2) := by decide +kernel
theorem d_Fade_fadeBy_35 : decode b_Fade_fadeBy 35 = .ok (.lload 7, 2) := by decide +kernel
theorem d_Fade_fadeBy_37 : decode b_Fade_fadeBy 37 = .ok (.lsub, 1) := by decide +kernel
theorem d_Fade_fadeBy_38 : decode b_Fade_fadeBy 38 = .ok (.lstore 4, 2) := by decide +kernel
theorem d_Fade_fadeBy_40 : decode b_Fade_fadeBy 40 = .ok (.iinc 6 1, 3) := by decide +kernel
theorem d_Fade_fadeBy_43 : decode b_Fade_fadeBy 43 = .ok (.goto (-37), 3) := by decide +kernel
theorem d_Fade_fadeBy_46 : decode b_Fade_fadeBy 46 = .ok (.lload 4, 2) := by decide +kernel
theorem d_Fade_fadeBy_48 : decode b_Fade_fadeBy 48 = .ok (.lreturn, 1) := by decide +kernel
