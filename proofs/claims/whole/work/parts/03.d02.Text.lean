theorem d_Text_init_0 : decode b_Text_init 0 = .ok (.aload_n 0, 1) := by decide +kernel
theorem d_Text_init_1 : decode b_Text_init 1 = .ok (.invokespecial 3, 3) := by decide +kernel
theorem d_Text_init_4 : decode b_Text_init 4 = .ok (.aload_n 0, 1) := by decide +kernel
theorem d_Text_init_5 : decode b_Text_init 5 = .ok (.sipush 600, 3) := by decide +kernel
theorem d_Text_init_8 : decode b_Text_init 8 = .ok (.newarray .char, 2) := by decide +kernel
theorem d_Text_init_10 : decode b_Text_init 10 = .ok (.putfield 11, 3) := by decide +kernel
theorem d_Text_init_13 : decode b_Text_init 13 = .ok (.return_, 1) := by decide +kernel
theorem d_Text_add_0 : decode b_Text_add 0 = .ok (.aload_n 0, 1) := by decide +kernel
theorem d_Text_add_1 : decode b_Text_add 1 = .ok (.getfield 15, 3) := by decide +kernel
theorem d_Text_add_4 : decode b_Text_add 4 = .ok (.ifCond .lt 15, 3) := by decide +kernel
theorem d_Text_add_7 : decode b_Text_add 7 = .ok (.aload_n 0, 1) := by decide +kernel
theorem d_Text_add_8 : decode b_Text_add 8 = .ok (.getfield 15, 3) := by decide +kernel
theorem d_Text_add_11 : decode b_Text_add 11 = .ok (.aload_n 0, 1) := by decide +kernel
theorem d_Text_add_12 : decode b_Text_add 12 = .ok (.getfield 11, 3) := by decide +kernel
theorem d_Text_add_15 : decode b_Text_add 15 = .ok (.arraylength, 1) := by decide +kernel
theorem d_Text_add_16 : decode b_Text_add 16 = .ok (.if_icmp .lt 5, 3) := by decide +kernel
theorem d_Text_add_19 : decode b_Text_add 19 = .ok (.iconst 0, 1) := by decide +kernel
theorem d_Text_add_20 : decode b_Text_add 20 = .ok (.ireturn, 1) := by decide +kernel
theorem d_Text_add_21 : decode b_Text_add 21 = .ok (.aload_n 0, 1) := by decide +kernel
theorem d_Text_add_22 : decode b_Text_add 22 = .ok (.getfield 11, 3) := by decide +kernel
theorem d_Text_add_25 : decode b_Text_add 25 = .ok (.aload_n 0, 1) := by decide +kernel
theorem d_Text_add_26 : decode b_Text_add 26 = .ok (.getfield 15, 3) := by decide +kernel
theorem d_Text_add_29 : decode b_Text_add 29 = .ok (.iload_n 1, 1) := by decide +kernel
theorem d_Text_add_30 : decode b_Text_add 30 = .ok (.castore, 1) := by decide +kernel
theorem d_Text_add_31 : decode b_Text_add 31 = .ok (.aload_n 0, 1) := by decide +kernel
theorem d_Text_add_32 : decode b_Text_add 32 = .ok (.dup, 1) := by decide +kernel
theorem d_Text_add_33 : decode b_Text_add 33 = .ok (.getfield 15, 3) := by decide +kernel
theorem d_Text_add_36 : decode b_Text_add 36 = .ok (.iconst 1, 1) := by decide +kernel
theorem d_Text_add_37 : decode b_Text_add 37 = .ok (.iadd, 1) := by decide +kernel
theorem d_Text_add_38 : decode b_Text_add 38 = .ok (.putfield 15, 3) := by decide +kernel
theorem d_Text_add_41 : decode b_Text_add 41 = .ok (.iconst 1, 1) := by decide +kernel
theorem d_Text_add_42 : decode b_Text_add 42 = .ok (.ireturn, 1) := by decide +kernel
theorem d_Text_readInto_0 : decode b_Text_readInto 0 = .ok (.aload_n 1, 1) := by decide +kernel
theorem d_Text_readInto_1 : decode b_Text_readInto 1 = .ok (.invokevirtual 19, 3) := by decide +kernel
theorem d_Text_readInto_4 : decode b_Text_readInto 4 = .ok (.aload_n 0, 1) := by decide +kernel
theorem d_Text_readInto_5 : decode b_Text_readInto 5 = .ok (.iconst 0, 1) := by decide +kernel
theorem d_Text_readInto_6 : decode b_Text_readInto 6 = .ok (.putfield 24, 3) := by decide +kernel
theorem d_Text_readInto_9 : decode b_Text_readInto 9 = .ok (.iconst 0, 1) := by decide +kernel
theorem d_Text_readInto_10 : decode b_Text_readInto 10 = .ok (.istore_n 2, 1) := by decide +kernel
theorem d_Text_readInto_11 : decode b_Text_readInto 11 = .ok (.iconst 0, 1) := by decide +kernel
theorem d_Text_readInto_12 : decode b_Text_readInto 12 = .ok (.istore_n 3, 1) := by decide +kernel
theorem d_Text_readInto_13 : decode b_Text_readInto 13 = .ok (.iconst 0, 1) := by decide +kernel
theorem d_Text_readInto_14 : decode b_Text_readInto 14 = .ok (.istore 4, 2) := by decide +kernel
theorem d_Text_readInto_16 : decode b_Text_readInto 16 = .ok (.iload 4, 2) := by decide +kernel
theorem d_Text_readInto_18 : decode b_Text_readInto 18 = .ok (.aload_n 0, 1) := by decide +kernel
theorem d_Text_readInto_19 : decode b_Text_readInto 19 = .ok (.getfield 15, 3) := by decide +kernel
theorem d_Text_readInto_22 : decode b_Text_readInto 22 = .ok (.if_icmp .gt 73, 3) := by decide +kernel
theorem d_Text_readInto_25 : decode b_Text_readInto 25 = .ok (.iload 4, 2) := by decide +kernel
theorem d_Text_readInto_27 : decode b_Text_readInto 27 = .ok (.aload_n 0, 1) := by decide +kernel
theorem d_Text_readInto_28 : decode b_Text_readInto 28 = .ok (.getfield 15, 3) := by decide +kernel
theorem d_Text_readInto_31 : decode b_Text_readInto 31 = .ok (.if_icmp .ge 29, 3) := by decide +kernel
theorem d_Text_readInto_34 : decode b_Text_readInto 34 = .ok (.iload 4, 2) := by decide +kernel
theorem d_Text_readInto_36 : decode b_Text_readInto 36 = .ok (.aload_n 0, 1) := by decide +kernel
theorem d_Text_readInto_37 : decode b_Text_readInto 37 = .ok (.getfield 11, 3) := by decide +kernel
theorem d_Text_readInto_40 : decode b_Text_readInto 40 = .ok (.arraylength, 1) := by decide +kernel
theorem d_Text_readInto_41 : decode b_Text_readInto 41 = .ok (.if_icmp .ge 19, 3) := by decide +kernel
theorem d_Text_readInto_44 : decode b_Text_readInto 44 = .ok (.aload_n 0, 1) := by decide +kernel
theorem d_Text_readInto_45 : decode b_Text_readInto 45 = .ok (.getfield 11, 3) := by decide +kernel
theorem d_Text_readInto_48 : decode b_Text_readInto 48 = .ok (.iload 4, 2) := by decide +kernel
theorem d_Text_readInto_50 : decode b_Text_readInto 50 = .ok (.caload, 1) := by decide +kernel
theorem d_Text_readInto_51 : decode b_Text_readInto 51 = .ok (.invokestatic 27, 3) := by decide +kernel
theorem d_Text_readInto_54 : decode b_Text_readInto 54 = .ok (.ifCond .ne 6, 3) := by decide +kernel
theorem d_Text_readInto_57 : decode b_Text_readInto 57 = .ok (.goto 32, 3) := by decide +kernel
theorem d_Text_readInto_60 : decode b_Text_readInto 60 = .ok (.iload_n 3, 1) := by decide +kernel
theorem d_Text_readInto_61 : decode b_Text_readInto 61 = .ok (.iload 4, 2) := by decide +kernel
theorem d_Text_readInto_63 : decode b_Text_readInto 63 = .ok (.if_icmp .ge 21, 3) := by decide +kernel
theorem d_Text_readInto_66 : decode b_Text_readInto 66 = .ok (.aload_n 0, 1) := by decide +kernel
theorem d_Text_readInto_67 : decode b_Text_readInto 67 = .ok (.aload_n 1, 1) := by decide +kernel
theorem d_Text_readInto_68 : decode b_Text_readInto 68 = .ok (.iload_n 3, 1) := by decide +kernel
theorem d_Text_readInto_69 : decode b_Text_readInto 69 = .ok (.iload 4, 2) := by decide +kernel
theorem d_Text_readInto_71 : decode b_Text_readInto 71 = .ok (.invokevirtual 31, 3) := by decide +kernel
theorem d_Text_readInto_74 : decode b_Text_readInto 74 = .ok (.ifCond .ne 7, 3) := by decide +kernel
theorem d_Text_readInto_77 : decode b_Text_readInto 77 = .ok (.iconst (-1), 1) := by decide +kernel
theorem d_Text_readInto_78 : decode b_Text_readInto 78 = .ok (.iload_n 2, 1) := by decide +kernel
theorem d_Text_readInto_79 : decode b_Text_readInto 79 = .ok (.isub, 1) := by decide +kernel
theorem d_Text_readInto_80 : decode b_Text_readInto 80 = .ok (.ireturn, 1) := by decide +kernel
theorem d_Text_readInto_81 : decode b_Text_readInto 81 = .ok (.iinc 2 1, 3) := by decide +kernel
theorem d_Text_readInto_84 : decode b_Text_readInto 84 = .ok (.iload 4, 2) := by decide +kernel
theorem d_Text_readInto_86 : decode b_Text_readInto 86 = .ok (.iconst 1, 1) := by decide +kernel
theorem d_Text_readInto_87 : decode b_Text_readInto 87 = .ok (.iadd, 1) := by decide +kernel
theorem d_Text_readInto_88 : decode b_Text_readInto 88 = .ok (.istore_n 3, 1) := by decide +kernel
theorem d_Text_readInto_89 : decode b_Text_readInto 89 = .ok (.iinc 4 1, 3) := by decide +kernel
theorem d_Text_readInto_92 : decode b_Text_readInto 92 = .ok (.goto (-76), 3) := by decide +kernel
theorem d_Text_readInto_95 : decode b_Text_readInto 95 = .ok (.aload_n 0, 1) := by decide +kernel
theorem d_Text_readInto_96 : decode b_Text_readInto 96 = .ok (.getfield 24, 3) := by decide +kernel
theorem d_Text_readInto_99 : decode b_Text_readInto 99 = .ok (.ifCond .eq 11, 3) := by decide +kernel
theorem d_Text_readInto_102 : decode b_Text_readInto 102 = .ok (.aload_n 0, 1) := by decide +kernel
theorem d_Text_readInto_103 : decode b_Text_readInto 103 = .ok (.getfield 24, 3) := by decide +kernel
theorem d_Text_readInto_106 : decode b_Text_readInto 106 = .ok (.iconst 2, 1) := by decide +kernel
theorem d_Text_readInto_107 : decode b_Text_readInto 107 = .ok (.if_icmp .ne 7, 3) := by decide +kernel
theorem d_Text_readInto_110 : decode b_Text_readInto 110 = .ok (.iconst 1, 1) := by decide +kernel
theorem d_Text_readInto_111 : decode b_Text_readInto 111 = .ok (.goto 4, 3) := by decide +kernel
theorem d_Text_readInto_114 : decode b_Text_readInto 114 = .ok (.iconst 0, 1) := by decide +kernel
theorem d_Text_readInto_115 : decode b_Text_readInto 115 = .ok (.istore 4, 2) := by decide +kernel
theorem d_Text_readInto_117 : decode b_Text_readInto 117 = .ok (.iload 4, 2) := by decide +kernel
theorem d_Text_readInto_119 : decode b_Text_readInto 119 = .ok (.ifCond .eq 10, 3) := by decide +kernel
theorem d_Text_readInto_122 : decode b_Text_readInto 122 = .ok (.aload_n 1, 1) := by decide +kernel
theorem d_Text_readInto_123 : decode b_Text_readInto 123 = .ok (.getfield 35, 3) := by decide +kernel
theorem d_Text_readInto_126 : decode b_Text_readInto 126 = .ok (.goto 6, 3) := by decide +kernel
theorem d_Text_readInto_129 : decode b_Text_readInto 129 = .ok (.iconst (-1), 1) := by decide +kernel
theorem d_Text_readInto_130 : decode b_Text_readInto 130 = .ok (.iload_n 2, 1) := by decide +kernel
theorem d_Text_readInto_131 : decode b_Text_readInto 131 = .ok (.isub, 1) := by decide +kernel
theorem d_Text_readInto_132 : decode b_Text_readInto 132 = .ok (.ireturn, 1) := by decide +kernel
theorem d_Text_isBlank_0 : decode b_Text_isBlank 0 = .ok (.iload_n 0, 1) := by decide +kernel
theorem d_Text_isBlank_1 : decode b_Text_isBlank 1 = .ok (.bipush 32, 2) := by decide +kernel
theorem d_Text_isBlank_3 : decode b_Text_isBlank 3 = .ok (.if_icmp .eq 9, 3) := by decide +kernel
theorem d_Text_isBlank_6 : decode b_Text_isBlank 6 = .ok (.iload_n 0, 1) := by decide +kernel
theorem d_Text_isBlank_7 : decode b_Text_isBlank 7 = .ok (.bipush 10, 2) := by decide +kernel
theorem d_Text_isBlank_9 : decode b_Text_isBlank 9 = .ok (.if_icmp .ne 7, 3) := by decide +kernel
theorem d_Text_isBlank_12 : decode b_Text_isBlank 12 = .ok (.iconst 1, 1) := by decide +kernel
theorem d_Text_isBlank_13 : decode b_Text_isBlank 13 = .ok (.goto 4, 3) := by decide +kernel
theorem d_Text_isBlank_16 : decode b_Text_isBlank 16 = .ok (.iconst 0, 1) := by decide +kernel
theorem d_Text_isBlank_17 : decode b_Text_isBlank 17 = .ok (.ireturn, 1) := by decide +kernel
theorem d_Text_takeWord_0 : decode b_Text_takeWord 0 = .ok (.aload_n 0, 1) := by decide +kernel
theorem d_Text_takeWord_1 : decode b_Text_takeWord 1 = .ok (.getfield 24, 3) := by decide +kernel
theorem d_Text_takeWord_4 : decode b_Text_takeWord 4 = .ok (.tableswitch 88 0 3 #[32, 40, 52, 77], 32) := by decide +kernel
theorem d_Text_takeWord_36 : decode b_Text_takeWord 36 = .ok (.aload_n 0, 1) := by decide +kernel
theorem d_Text_takeWord_37 : decode b_Text_takeWord 37 = .ok (.aload_n 1, 1) := by decide +kernel
theorem d_Text_takeWord_38 : decode b_Text_takeWord 38 = .ok (.iload_n 2, 1) := by decide +kernel
theorem d_Text_takeWord_39 : decode b_Text_takeWord 39 = .ok (.iload_n 3, 1) := by decide +kernel
theorem d_Text_takeWord_40 : decode b_Text_takeWord 40 = .ok (.invokevirtual 38, 3) := by decide +kernel
theorem d_Text_takeWord_43 : decode b_Text_takeWord 43 = .ok (.ireturn, 1) := by decide +kernel
theorem d_Text_takeWord_44 : decode b_Text_takeWord 44 = .ok (.aload_n 0, 1) := by decide +kernel
theorem d_Text_takeWord_45 : decode b_Text_takeWord 45 = .ok (.aload_n 1, 1) := by decide +kernel
theorem d_Text_takeWord_46 : decode b_Text_takeWord 46 = .ok (.aload_n 0, 1) := by decide +kernel
theorem d_Text_takeWord_47 : decode b_Text_takeWord 47 = .ok (.iload_n 2, 1) := by decide +kernel
theorem d_Text_takeWord_48 : decode b_Text_takeWord 48 = .ok (.iload_n 3, 1) := by decide +kernel
theorem d_Text_takeWord_49 : decode b_Text_takeWord 49 = .ok (.invokevirtual 41, 3) := by decide +kernel
theorem d_Text_takeWord_52 : decode b_Text_takeWord 52 = .ok (.invokevirtual 45, 3) := by decide +kernel
theorem d_Text_takeWord_55 : decode b_Text_takeWord 55 = .ok (.ireturn, 1) := by decide +kernel
theorem d_Text_takeWord_56 : decode b_Text_takeWord 56 = .ok (.aload_n 0, 1) := by decide +kernel
theorem d_Text_takeWord_57 : decode b_Text_takeWord 57 = .ok (.iload_n 2, 1) := by decide +kernel
theorem d_Text_takeWord_58 : decode b_Text_takeWord 58 = .ok (.iload_n 3, 1) := by decide +kernel
theorem d_Text_takeWord_59 : decode b_Text_takeWord 59 = .ok (.invokevirtual 49, 3) := by decide +kernel
theorem d_Text_takeWord_62 : decode b_Text_takeWord 62 = .ok (.ifCond .ne 13, 3) := by decide +kernel
theorem d_Text_takeWord_65 : decode b_Text_takeWord 65 = .ok (.aload_n 0, 1) := by decide +kernel
theorem d_Text_takeWord_66 : decode b_Text_takeWord 66 = .ok (.aload_n 1, 1) := by decide +kernel
theorem d_Text_takeWord_67 : decode b_Text_takeWord 67 = .ok (.iload_n 2, 1) := by decide +kernel
theorem d_Text_takeWord_68 : decode b_Text_takeWord 68 = .ok (.iload_n 3, 1) := by decide +kernel
theorem d_Text_takeWord_69 : decode b_Text_takeWord 69 = .ok (.invokevirtual 38, 3) := by decide +kernel
theorem d_Text_takeWord_72 : decode b_Text_takeWord 72 = .ok (.ifCond .eq 7, 3) := by decide +kernel
theorem d_Text_takeWord_75 : decode b_Text_takeWord 75 = .ok (.iconst 1, 1) := by decide +kernel
theorem d_Text_takeWord_76 : decode b_Text_takeWord 76 = .ok (.goto 4, 3) := by decide +kernel
theorem d_Text_takeWord_79 : decode b_Text_takeWord 79 = .ok (.iconst 0, 1) := by decide +kernel
theorem d_Text_takeWord_80 : decode b_Text_takeWord 80 = .ok (.ireturn, 1) := by decide +kernel
theorem d_Text_takeWord_81 : decode b_Text_takeWord 81 = .ok (.aload_n 0, 1) := by decide +kernel
theorem d_Text_takeWord_82 : decode b_Text_takeWord 82 = .ok (.aload_n 0, 1) := by decide +kernel
theorem d_Text_takeWord_83 : decode b_Text_takeWord 83 = .ok (.iload_n 2, 1) := by decide +kernel
theorem d_Text_takeWord_84 : decode b_Text_takeWord 84 = .ok (.iload_n 3, 1) := by decide +kernel
theorem d_Text_takeWord_85 : decode b_Text_takeWord 85 = .ok (.invokevirtual 41, 3) := by decide +kernel
theorem d_Text_takeWord_88 : decode b_Text_takeWord 88 = .ok (.invokevirtual 53, 3) := by decide +kernel
theorem d_Text_takeWord_91 : decode b_Text_takeWord 91 = .ok (.ireturn, 1) := by decide +kernel
theorem d_Text_takeWord_92 : decode b_Text_takeWord 92 = .ok (.aload_n 0, 1) := by decide +kernel
theorem d_Text_takeWord_93 : decode b_Text_takeWord 93 = .ok (.aload_n 1, 1) := by decide +kernel
theorem d_Text_takeWord_94 : decode b_Text_takeWord 94 = .ok (.aload_n 0, 1) := by decide +kernel
theorem d_Text_takeWord_95 : decode b_Text_takeWord 95 = .ok (.iload_n 2, 1) := by decide +kernel
theorem d_Text_takeWord_96 : decode b_Text_takeWord 96 = .ok (.iload_n 3, 1) := by decide +kernel
theorem d_Text_takeWord_97 : decode b_Text_takeWord 97 = .ok (.invokevirtual 41, 3) := by decide +kernel
theorem d_Text_takeWord_100 : decode b_Text_takeWord 100 = .ok (.invokevirtual 57, 3) := by decide +kernel
theorem d_Text_takeWord_103 : decode b_Text_takeWord 103 = .ok (.ireturn, 1) := by decide +kernel
theorem d_Text_takeClassWord_0 : decode b_Text_takeClassWord 0 = .ok (.aload_n 1, 1) := by decide +kernel
theorem d_Text_takeClassWord_1 : decode b_Text_takeClassWord 1 = .ok (.invokevirtual 60, 3) := by decide +kernel
theorem d_Text_takeClassWord_4 : decode b_Text_takeClassWord 4 = .ok (.ifCond .ne 12, 3) := by decide +kernel
theorem d_Text_takeClassWord_7 : decode b_Text_takeClassWord 7 = .ok (.aload_n 0, 1) := by decide +kernel
theorem d_Text_takeClassWord_8 : decode b_Text_takeClassWord 8 = .ok (.iload_n 2, 1) := by decide +kernel
theorem d_Text_takeClassWord_9 : decode b_Text_takeClassWord 9 = .ok (.iload_n 3, 1) := by decide +kernel
theorem d_Text_takeClassWord_10 : decode b_Text_takeClassWord 10 = .ok (.invokevirtual 64, 3) := by decide +kernel
theorem d_Text_takeClassWord_13 : decode b_Text_takeClassWord 13 = .ok (.ifCond .ne 5, 3) := by decide +kernel
theorem d_Text_takeClassWord_16 : decode b_Text_takeClassWord 16 = .ok (.iconst 0, 1) := by decide +kernel
theorem d_Text_takeClassWord_17 : decode b_Text_takeClassWord 17 = .ok (.ireturn, 1) := by decide +kernel
theorem d_Text_takeClassWord_18 : decode b_Text_takeClassWord 18 = .ok (.aload_n 0, 1) := by decide +kernel
theorem d_Text_takeClassWord_19 : decode b_Text_takeClassWord 19 = .ok (.iconst 1, 1) := by decide +kernel
theorem d_Text_takeClassWord_20 : decode b_Text_takeClassWord 20 = .ok (.putfield 24, 3) := by decide +kernel
theorem d_Text_takeClassWord_23 : decode b_Text_takeClassWord 23 = .ok (.iconst 1, 1) := by decide +kernel
theorem d_Text_takeClassWord_24 : decode b_Text_takeClassWord 24 = .ok (.ireturn, 1) := by decide +kernel
theorem d_Text_isClassWord_0 : decode b_Text_isClassWord 0 = .ok (.iload_n 2, 1) := by decide +kernel
theorem d_Text_isClassWord_1 : decode b_Text_isClassWord 1 = .ok (.iload_n 1, 1) := by decide +kernel
theorem d_Text_isClassWord_2 : decode b_Text_isClassWord 2 = .ok (.isub, 1) := by decide +kernel
theorem d_Text_isClassWord_3 : decode b_Text_isClassWord 3 = .ok (.ldc 90, 2) := by decide +kernel
theorem d_Text_isClassWord_5 : decode b_Text_isClassWord 5 = .ok (.invokevirtual 92, 3) := by decide +kernel
theorem d_Text_isClassWord_8 : decode b_Text_isClassWord 8 = .ok (.if_icmp .ne 16, 3) := by decide +kernel
theorem d_Text_isClassWord_11 : decode b_Text_isClassWord 11 = .ok (.iload_n 1, 1) := by decide +kernel
theorem d_Text_isClassWord_12 : decode b_Text_isClassWord 12 = .ok (.ifCond .lt 12, 3) := by decide +kernel
theorem d_Text_isClassWord_15 : decode b_Text_isClassWord 15 = .ok (.iload_n 2, 1) := by decide +kernel
theorem d_Text_isClassWord_16 : decode b_Text_isClassWord 16 = .ok (.aload_n 0, 1) := by decide +kernel
theorem d_Text_isClassWord_17 : decode b_Text_isClassWord 17 = .ok (.getfield 11, 3) := by decide +kernel
theorem d_Text_isClassWord_20 : decode b_Text_isClassWord 20 = .ok (.arraylength, 1) := by decide +kernel
theorem d_Text_isClassWord_21 : decode b_Text_isClassWord 21 = .ok (.if_icmp .le 5, 3) := by decide +kernel
theorem d_Text_isClassWord_24 : decode b_Text_isClassWord 24 = .ok (.iconst 0, 1) := by decide +kernel
theorem d_Text_isClassWord_25 : decode b_Text_isClassWord 25 = .ok (.ireturn, 1) := by decide +kernel
theorem d_Text_isClassWord_26 : decode b_Text_isClassWord 26 = .ok (.iconst 0, 1) := by decide +kernel
theorem d_Text_isClassWord_27 : decode b_Text_isClassWord 27 = .ok (.istore_n 3, 1) := by decide +kernel
theorem d_Text_isClassWord_28 : decode b_Text_isClassWord 28 = .ok (.iload_n 3, 1) := by decide +kernel
theorem d_Text_isClassWord_29 : decode b_Text_isClassWord 29 = .ok (.ldc 90, 2) := by decide +kernel
theorem d_Text_isClassWord_31 : decode b_Text_isClassWord 31 = .ok (.invokevirtual 92, 3) := by decide +kernel
theorem d_Text_isClassWord_34 : decode b_Text_isClassWord 34 = .ok (.if_icmp .ge 28, 3) := by decide +kernel
theorem d_Text_isClassWord_37 : decode b_Text_isClassWord 37 = .ok (.aload_n 0, 1) := by decide +kernel
theorem d_Text_isClassWord_38 : decode b_Text_isClassWord 38 = .ok (.getfield 11, 3) := by decide +kernel
theorem d_Text_isClassWord_41 : decode b_Text_isClassWord 41 = .ok (.iload_n 1, 1) := by decide +kernel
theorem d_Text_isClassWord_42 : decode b_Text_isClassWord 42 = .ok (.iload_n 3, 1) := by decide +kernel
theorem d_Text_isClassWord_43 : decode b_Text_isClassWord 43 = .ok (.iadd, 1) := by decide +kernel
theorem d_Text_isClassWord_44 : decode b_Text_isClassWord 44 = .ok (.caload, 1) := by decide +kernel
theorem d_Text_isClassWord_45 : decode b_Text_isClassWord 45 = .ok (.ldc 90, 2) := by decide +kernel
theorem d_Text_isClassWord_47 : decode b_Text_isClassWord 47 = .ok (.iload_n 3, 1) := by decide +kernel
theorem d_Text_isClassWord_48 : decode b_Text_isClassWord 48 = .ok (.invokevirtual 97, 3) := by decide +kernel
theorem d_Text_isClassWord_51 : decode b_Text_isClassWord 51 = .ok (.if_icmp .eq 5, 3) := by decide +kernel
theorem d_Text_isClassWord_54 : decode b_Text_isClassWord 54 = .ok (.iconst 0, 1) := by decide +kernel
theorem d_Text_isClassWord_55 : decode b_Text_isClassWord 55 = .ok (.ireturn, 1) := by decide +kernel
theorem d_Text_isClassWord_56 : decode b_Text_isClassWord 56 = .ok (.iinc 3 1, 3) := by decide +kernel
theorem d_Text_isClassWord_59 : decode b_Text_isClassWord 59 = .ok (.goto (-31), 3) := by decide +kernel
theorem d_Text_isClassWord_62 : decode b_Text_isClassWord 62 = .ok (.iconst 1, 1) := by decide +kernel
theorem d_Text_isClassWord_63 : decode b_Text_isClassWord 63 = .ok (.ireturn, 1) := by decide +kernel
theorem d_Text_numberIn_0 : decode b_Text_numberIn 0 = .ok (.iload_n 1, 1) := by decide +kernel
theorem d_Text_numberIn_1 : decode b_Text_numberIn 1 = .ok (.ifCond .lt 17, 3) := by decide +kernel
theorem d_Text_numberIn_4 : decode b_Text_numberIn 4 = .ok (.iload_n 1, 1) := by decide +kernel
theorem d_Text_numberIn_5 : decode b_Text_numberIn 5 = .ok (.iload_n 2, 1) := by decide +kernel
theorem d_Text_numberIn_6 : decode b_Text_numberIn 6 = .ok (.if_icmp .ge 12, 3) := by decide +kernel
theorem d_Text_numberIn_9 : decode b_Text_numberIn 9 = .ok (.iload_n 2, 1) := by decide +kernel
theorem d_Text_numberIn_10 : decode b_Text_numberIn 10 = .ok (.aload_n 0, 1) := by decide +kernel
theorem d_Text_numberIn_11 : decode b_Text_numberIn 11 = .ok (.getfield 11, 3) := by decide +kernel
theorem d_Text_numberIn_14 : decode b_Text_numberIn 14 = .ok (.arraylength, 1) := by decide +kernel
theorem d_Text_numberIn_15 : decode b_Text_numberIn 15 = .ok (.if_icmp .le 6, 3) := by decide +kernel
theorem d_Text_numberIn_18 : decode b_Text_numberIn 18 = .ok (.ldc 82, 2) := by decide +kernel
theorem d_Text_numberIn_20 : decode b_Text_numberIn 20 = .ok (.ireturn, 1) := by decide +kernel
theorem d_Text_numberIn_21 : decode b_Text_numberIn 21 = .ok (.aload_n 0, 1) := by decide +kernel
theorem d_Text_numberIn_22 : decode b_Text_numberIn 22 = .ok (.getfield 11, 3) := by decide +kernel
theorem d_Text_numberIn_25 : decode b_Text_numberIn 25 = .ok (.iload_n 1, 1) := by decide +kernel
theorem d_Text_numberIn_26 : decode b_Text_numberIn 26 = .ok (.caload, 1) := by decide +kernel
theorem d_Text_numberIn_27 : decode b_Text_numberIn 27 = .ok (.bipush 45, 2) := by decide +kernel
theorem d_Text_numberIn_29 : decode b_Text_numberIn 29 = .ok (.if_icmp .ne 7, 3) := by decide +kernel
theorem d_Text_numberIn_32 : decode b_Text_numberIn 32 = .ok (.iconst 1, 1) := by decide +kernel
theorem d_Text_numberIn_33 : decode b_Text_numberIn 33 = .ok (.goto 4, 3) := by decide +kernel
theorem d_Text_numberIn_36 : decode b_Text_numberIn 36 = .ok (.iconst 0, 1) := by decide +kernel
theorem d_Text_numberIn_37 : decode b_Text_numberIn 37 = .ok (.istore_n 3, 1) := by decide +kernel
theorem d_Text_numberIn_38 : decode b_Text_numberIn 38 = .ok (.iload_n 3, 1) := by decide +kernel
theorem d_Text_numberIn_39 : decode b_Text_numberIn 39 = .ok (.ifCond .eq 9, 3) := by decide +kernel
theorem d_Text_numberIn_42 : decode b_Text_numberIn 42 = .ok (.iload_n 1, 1) := by decide +kernel
theorem d_Text_numberIn_43 : decode b_Text_numberIn 43 = .ok (.iconst 1, 1) := by decide +kernel
theorem d_Text_numberIn_44 : decode b_Text_numberIn 44 = .ok (.iadd, 1) := by decide +kernel
theorem d_Text_numberIn_45 : decode b_Text_numberIn 45 = .ok (.goto 4, 3) := by decide +kernel
theorem d_Text_numberIn_48 : decode b_Text_numberIn 48 = .ok (.iload_n 1, 1) := by decide +kernel
theorem d_Text_numberIn_49 : decode b_Text_numberIn 49 = .ok (.istore 4, 2) := by decide +kernel
theorem d_Text_numberIn_51 : decode b_Text_numberIn 51 = .ok (.iload_n 2, 1) := by decide +kernel
theorem d_Text_numberIn_52 : decode b_Text_numberIn 52 = .ok (.iload 4, 2) := by decide +kernel
theorem d_Text_numberIn_54 : decode b_Text_numberIn 54 = .ok (.isub, 1) := by decide +kernel
theorem d_Text_numberIn_55 : decode b_Text_numberIn 55 = .ok (.i2l, 1) := by decide +kernel
theorem d_Text_numberIn_56 : decode b_Text_numberIn 56 = .ok (.lconst 1, 1) := by decide +kernel
theorem d_Text_numberIn_57 : decode b_Text_numberIn 57 = .ok (.ldc2_w 101, 3) := by decide +kernel
theorem d_Text_numberIn_60 : decode b_Text_numberIn 60 = .ok (.invokestatic 69, 3) := by decide +kernel
theorem d_Text_numberIn_63 : decode b_Text_numberIn 63 = .ok (.ifCond .ne 6, 3) := by decide +kernel
theorem d_Text_numberIn_66 : decode b_Text_numberIn 66 = .ok (.ldc 82, 2) := by decide +kernel
theorem d_Text_numberIn_68 : decode b_Text_numberIn 68 = .ok (.ireturn, 1) := by decide +kernel
theorem d_Text_numberIn_69 : decode b_Text_numberIn 69 = .ok (.iconst 0, 1) := by decide +kernel
theorem d_Text_numberIn_70 : decode b_Text_numberIn 70 = .ok (.istore 5, 2) := by decide +kernel
theorem d_Text_numberIn_72 : decode b_Text_numberIn 72 = .ok (.iload 4, 2) := by decide +kernel
theorem d_Text_numberIn_74 : decode b_Text_numberIn 74 = .ok (.istore 6, 2) := by decide +kernel
theorem d_Text_numberIn_76 : decode b_Text_numberIn 76 = .ok (.iload 6, 2) := by decide +kernel
theorem d_Text_numberIn_78 : decode b_Text_numberIn 78 = .ok (.iload_n 2, 1) := by decide +kernel
theorem d_Text_numberIn_79 : decode b_Text_numberIn 79 = .ok (.if_icmp .ge 50, 3) := by decide +kernel
theorem d_Text_numberIn_82 : decode b_Text_numberIn 82 = .ok (.aload_n 0, 1) := by decide +kernel
theorem d_Text_numberIn_83 : decode b_Text_numberIn 83 = .ok (.getfield 11, 3) := by decide +kernel
theorem d_Text_numberIn_86 : decode b_Text_numberIn 86 = .ok (.iload 6, 2) := by decide +kernel
theorem d_Text_numberIn_88 : decode b_Text_numberIn 88 = .ok (.caload, 1) := by decide +kernel
theorem d_Text_numberIn_89 : decode b_Text_numberIn 89 = .ok (.i2l, 1) := by decide +kernel
theorem d_Text_numberIn_90 : decode b_Text_numberIn 90 = .ok (.ldc2_w 103, 3) := by decide +kernel
theorem d_Text_numberIn_93 : decode b_Text_numberIn 93 = .ok (.ldc2_w 105, 3) := by decide +kernel
theorem d_Text_numberIn_96 : decode b_Text_numberIn 96 = .ok (.invokestatic 69, 3) := by decide +kernel
theorem d_Text_numberIn_99 : decode b_Text_numberIn 99 = .ok (.ifCond .ne 6, 3) := by decide +kernel
theorem d_Text_numberIn_102 : decode b_Text_numberIn 102 = .ok (.ldc 82, 2) := by decide +kernel
theorem d_Text_numberIn_104 : decode b_Text_numberIn 104 = .ok (.ireturn, 1) := by decide +kernel
theorem d_Text_numberIn_105 : decode b_Text_numberIn 105 = .ok (.iload 5, 2) := by decide +kernel
theorem d_Text_numberIn_107 : decode b_Text_numberIn 107 = .ok (.bipush 10, 2) := by decide +kernel
theorem d_Text_numberIn_109 : decode b_Text_numberIn 109 = .ok (.imul, 1) := by decide +kernel
theorem d_Text_numberIn_110 : decode b_Text_numberIn 110 = .ok (.aload_n 0, 1) := by decide +kernel
theorem d_Text_numberIn_111 : decode b_Text_numberIn 111 = .ok (.getfield 11, 3) := by decide +kernel
theorem d_Text_numberIn_114 : decode b_Text_numberIn 114 = .ok (.iload 6, 2) := by decide +kernel
theorem d_Text_numberIn_116 : decode b_Text_numberIn 116 = .ok (.caload, 1) := by decide +kernel
theorem d_Text_numberIn_117 : decode b_Text_numberIn 117 = .ok (.bipush 48, 2) := by decide +kernel
theorem d_Text_numberIn_119 : decode b_Text_numberIn 119 = .ok (.isub, 1) := by decide +kernel
theorem d_Text_numberIn_120 : decode b_Text_numberIn 120 = .ok (.iadd, 1) := by decide +kernel
theorem d_Text_numberIn_121 : decode b_Text_numberIn 121 = .ok (.istore 5, 2) := by decide +kernel
theorem d_Text_numberIn_123 : decode b_Text_numberIn 123 = .ok (.iinc 6 1, 3) := by decide +kernel
theorem d_Text_numberIn_126 : decode b_Text_numberIn 126 = .ok (.goto (-50), 3) := by decide +kernel
theorem d_Text_numberIn_129 : decode b_Text_numberIn 129 = .ok (.iload_n 3, 1) := by decide +kernel
theorem d_Text_numberIn_130 : decode b_Text_numberIn 130 = .ok (.ifCond .eq 9, 3) := by decide +kernel
theorem d_Text_numberIn_133 : decode b_Text_numberIn 133 = .ok (.iload 5, 2) := by decide +kernel
theorem d_Text_numberIn_135 : decode b_Text_numberIn 135 = .ok (.ineg, 1) := by decide +kernel
theorem d_Text_numberIn_136 : decode b_Text_numberIn 136 = .ok (.goto 5, 3) := by decide +kernel
theorem d_Text_numberIn_139 : decode b_Text_numberIn 139 = .ok (.iload 5, 2) := by decide +kernel
theorem d_Text_numberIn_141 : decode b_Text_numberIn 141 = .ok (.ireturn, 1) := by decide +kernel
theorem d_Text_takeClassNumber_0 : decode b_Text_takeClassNumber 0 = .ok (.iload_n 2, 1) := by decide +kernel
theorem d_Text_takeClassNumber_1 : decode b_Text_takeClassNumber 1 = .ok (.i2l, 1) := by decide +kernel
theorem d_Text_takeClassNumber_2 : decode b_Text_takeClassNumber 2 = .ok (.lconst 0, 1) := by decide +kernel
theorem d_Text_takeClassNumber_3 : decode b_Text_takeClassNumber 3 = .ok (.ldc2_w 67, 3) := by decide +kernel
theorem d_Text_takeClassNumber_6 : decode b_Text_takeClassNumber 6 = .ok (.invokestatic 69, 3) := by decide +kernel
theorem d_Text_takeClassNumber_9 : decode b_Text_takeClassNumber 9 = .ok (.ifCond .eq 11, 3) := by decide +kernel
theorem d_Text_takeClassNumber_12 : decode b_Text_takeClassNumber 12 = .ok (.aload_n 1, 1) := by decide +kernel
theorem d_Text_takeClassNumber_13 : decode b_Text_takeClassNumber 13 = .ok (.iload_n 2, 1) := by decide +kernel
theorem d_Text_takeClassNumber_14 : decode b_Text_takeClassNumber 14 = .ok (.invokevirtual 75, 3) := by decide +kernel
theorem d_Text_takeClassNumber_17 : decode b_Text_takeClassNumber 17 = .ok (.ifCond .ne 5, 3) := by decide +kernel
theorem d_Text_takeClassNumber_20 : decode b_Text_takeClassNumber 20 = .ok (.iconst 0, 1) := by decide +kernel
theorem d_Text_takeClassNumber_21 : decode b_Text_takeClassNumber 21 = .ok (.ireturn, 1) := by decide +kernel
theorem d_Text_takeClassNumber_22 : decode b_Text_takeClassNumber 22 = .ok (.aload_n 0, 1) := by decide +kernel
theorem d_Text_takeClassNumber_23 : decode b_Text_takeClassNumber 23 = .ok (.iconst 2, 1) := by decide +kernel
theorem d_Text_takeClassNumber_24 : decode b_Text_takeClassNumber 24 = .ok (.putfield 24, 3) := by decide +kernel
theorem d_Text_takeClassNumber_27 : decode b_Text_takeClassNumber 27 = .ok (.iconst 1, 1) := by decide +kernel
theorem d_Text_takeClassNumber_28 : decode b_Text_takeClassNumber 28 = .ok (.ireturn, 1) := by decide +kernel
theorem d_Text_takeLetter_0 : decode b_Text_takeLetter 0 = .ok (.iload_n 2, 1) := by decide +kernel
theorem d_Text_takeLetter_1 : decode b_Text_takeLetter 1 = .ok (.iload_n 1, 1) := by decide +kernel
theorem d_Text_takeLetter_2 : decode b_Text_takeLetter 2 = .ok (.isub, 1) := by decide +kernel
theorem d_Text_takeLetter_3 : decode b_Text_takeLetter 3 = .ok (.iconst 1, 1) := by decide +kernel
theorem d_Text_takeLetter_4 : decode b_Text_takeLetter 4 = .ok (.if_icmp .ne 16, 3) := by decide +kernel
theorem d_Text_takeLetter_7 : decode b_Text_takeLetter 7 = .ok (.iload_n 1, 1) := by decide +kernel
theorem d_Text_takeLetter_8 : decode b_Text_takeLetter 8 = .ok (.ifCond .lt 12, 3) := by decide +kernel
theorem d_Text_takeLetter_11 : decode b_Text_takeLetter 11 = .ok (.iload_n 1, 1) := by decide +kernel
theorem d_Text_takeLetter_12 : decode b_Text_takeLetter 12 = .ok (.aload_n 0, 1) := by decide +kernel
theorem d_Text_takeLetter_13 : decode b_Text_takeLetter 13 = .ok (.getfield 11, 3) := by decide +kernel
theorem d_Text_takeLetter_16 : decode b_Text_takeLetter 16 = .ok (.arraylength, 1) := by decide +kernel
theorem d_Text_takeLetter_17 : decode b_Text_takeLetter 17 = .ok (.if_icmp .lt 5, 3) := by decide +kernel
theorem d_Text_takeLetter_20 : decode b_Text_takeLetter 20 = .ok (.iconst 0, 1) := by decide +kernel
theorem d_Text_takeLetter_21 : decode b_Text_takeLetter 21 = .ok (.ireturn, 1) := by decide +kernel
theorem d_Text_takeLetter_22 : decode b_Text_takeLetter 22 = .ok (.aload_n 0, 1) := by decide +kernel
theorem d_Text_takeLetter_23 : decode b_Text_takeLetter 23 = .ok (.getfield 11, 3) := by decide +kernel
theorem d_Text_takeLetter_26 : decode b_Text_takeLetter 26 = .ok (.iload_n 1, 1) := by decide +kernel
theorem d_Text_takeLetter_27 : decode b_Text_takeLetter 27 = .ok (.caload, 1) := by decide +kernel
theorem d_Text_takeLetter_28 : decode b_Text_takeLetter 28 = .ok (.istore_n 3, 1) := by decide +kernel
theorem d_Text_takeLetter_29 : decode b_Text_takeLetter 29 = .ok (.iload_n 3, 1) := by decide +kernel
theorem d_Text_takeLetter_30 : decode b_Text_takeLetter 30 = .ok (.bipush 113, 2) := by decide +kernel
theorem d_Text_takeLetter_32 : decode b_Text_takeLetter 32 = .ok (.if_icmp .eq 17, 3) := by decide +kernel
theorem d_Text_takeLetter_35 : decode b_Text_takeLetter 35 = .ok (.iload_n 3, 1) := by decide +kernel
theorem d_Text_takeLetter_36 : decode b_Text_takeLetter 36 = .ok (.bipush 118, 2) := by decide +kernel
theorem d_Text_takeLetter_38 : decode b_Text_takeLetter 38 = .ok (.if_icmp .eq 11, 3) := by decide +kernel
theorem d_Text_takeLetter_41 : decode b_Text_takeLetter 41 = .ok (.iload_n 3, 1) := by decide +kernel
theorem d_Text_takeLetter_42 : decode b_Text_takeLetter 42 = .ok (.bipush 114, 2) := by decide +kernel
theorem d_Text_takeLetter_44 : decode b_Text_takeLetter 44 = .ok (.if_icmp .eq 5, 3) := by decide +kernel
theorem d_Text_takeLetter_47 : decode b_Text_takeLetter 47 = .ok (.iconst 0, 1) := by decide +kernel
theorem d_Text_takeLetter_48 : decode b_Text_takeLetter 48 = .ok (.ireturn, 1) := by decide +kernel
theorem d_Text_takeLetter_49 : decode b_Text_takeLetter 49 = .ok (.aload_n 0, 1) := by decide +kernel
theorem d_Text_takeLetter_50 : decode b_Text_takeLetter 50 = .ok (.iload_n 3, 1) := by decide +kernel
theorem d_Text_takeLetter_51 : decode b_Text_takeLetter 51 = .ok (.putfield 78, 3) := by decide +kernel
theorem d_Text_takeLetter_54 : decode b_Text_takeLetter 54 = .ok (.aload_n 0, 1) := by decide +kernel
theorem d_Text_takeLetter_55 : decode b_Text_takeLetter 55 = .ok (.iconst 3, 1) := by decide +kernel
theorem d_Text_takeLetter_56 : decode b_Text_takeLetter 56 = .ok (.putfield 24, 3) := by decide +kernel
theorem d_Text_takeLetter_59 : decode b_Text_takeLetter 59 = .ok (.iconst 1, 1) := by decide +kernel
theorem d_Text_takeLetter_60 : decode b_Text_takeLetter 60 = .ok (.ireturn, 1) := by decide +kernel
theorem d_Text_takeLow_0 : decode b_Text_takeLow 0 = .ok (.iload_n 1, 1) := by decide +kernel
theorem d_Text_takeLow_1 : decode b_Text_takeLow 1 = .ok (.ldc 82, 2) := by decide +kernel
theorem d_Text_takeLow_3 : decode b_Text_takeLow 3 = .ok (.if_icmp .ne 5, 3) := by decide +kernel
theorem d_Text_takeLow_6 : decode b_Text_takeLow 6 = .ok (.iconst 0, 1) := by decide +kernel
theorem d_Text_takeLow_7 : decode b_Text_takeLow 7 = .ok (.ireturn, 1) := by decide +kernel
theorem d_Text_takeLow_8 : decode b_Text_takeLow 8 = .ok (.aload_n 0, 1) := by decide +kernel
theorem d_Text_takeLow_9 : decode b_Text_takeLow 9 = .ok (.iload_n 1, 1) := by decide +kernel
theorem d_Text_takeLow_10 : decode b_Text_takeLow 10 = .ok (.putfield 83, 3) := by decide +kernel
theorem d_Text_takeLow_13 : decode b_Text_takeLow 13 = .ok (.aload_n 0, 1) := by decide +kernel
theorem d_Text_takeLow_14 : decode b_Text_takeLow 14 = .ok (.iconst 4, 1) := by decide +kernel
theorem d_Text_takeLow_15 : decode b_Text_takeLow 15 = .ok (.putfield 24, 3) := by decide +kernel
theorem d_Text_takeLow_18 : decode b_Text_takeLow 18 = .ok (.iconst 1, 1) := by decide +kernel
theorem d_Text_takeLow_19 : decode b_Text_takeLow 19 = .ok (.ireturn, 1) := by decide +kernel
theorem d_Text_takeHigh_0 : decode b_Text_takeHigh 0 = .ok (.iload_n 2, 1) := by decide +kernel
theorem d_Text_takeHigh_1 : decode b_Text_takeHigh 1 = .ok (.aload_n 0, 1) := by decide +kernel
theorem d_Text_takeHigh_2 : decode b_Text_takeHigh 2 = .ok (.getfield 83, 3) := by decide +kernel
theorem d_Text_takeHigh_5 : decode b_Text_takeHigh 5 = .ok (.if_icmp .lt 19, 3) := by decide +kernel
theorem d_Text_takeHigh_8 : decode b_Text_takeHigh 8 = .ok (.aload_n 1, 1) := by decide +kernel
theorem d_Text_takeHigh_9 : decode b_Text_takeHigh 9 = .ok (.aload_n 0, 1) := by decide +kernel
theorem d_Text_takeHigh_10 : decode b_Text_takeHigh 10 = .ok (.getfield 78, 3) := by decide +kernel
theorem d_Text_takeHigh_13 : decode b_Text_takeHigh 13 = .ok (.aload_n 0, 1) := by decide +kernel
theorem d_Text_takeHigh_14 : decode b_Text_takeHigh 14 = .ok (.getfield 83, 3) := by decide +kernel
theorem d_Text_takeHigh_17 : decode b_Text_takeHigh 17 = .ok (.iload_n 2, 1) := by decide +kernel
theorem d_Text_takeHigh_18 : decode b_Text_takeHigh 18 = .ok (.invokevirtual 86, 3) := by decide +kernel
theorem d_Text_takeHigh_21 : decode b_Text_takeHigh 21 = .ok (.ifCond .ne 5, 3) := by decide +kernel
theorem d_Text_takeHigh_24 : decode b_Text_takeHigh 24 = .ok (.iconst 0, 1) := by decide +kernel
theorem d_Text_takeHigh_25 : decode b_Text_takeHigh 25 = .ok (.ireturn, 1) := by decide +kernel
theorem d_Text_takeHigh_26 : decode b_Text_takeHigh 26 = .ok (.aload_n 0, 1) := by decide +kernel
theorem d_Text_takeHigh_27 : decode b_Text_takeHigh 27 = .ok (.iconst 2, 1) := by decide +kernel
theorem d_Text_takeHigh_28 : decode b_Text_takeHigh 28 = .ok (.putfield 24, 3) := by decide +kernel
theorem d_Text_takeHigh_31 : decode b_Text_takeHigh 31 = .ok (.iconst 1, 1) := by decide +kernel
theorem d_Text_takeHigh_32 : decode b_Text_takeHigh 32 = .ok (.ireturn, 1) := by decide +kernel
theorem d_Text_clear_0 : decode b_Text_clear 0 = .ok (.aload_n 0, 1) := by decide +kernel
theorem d_Text_clear_1 : decode b_Text_clear 1 = .ok (.iconst 0, 1) := by decide +kernel
theorem d_Text_clear_2 : decode b_Text_clear 2 = .ok (.putfield 15, 3) := by decide +kernel
theorem d_Text_clear_5 : decode b_Text_clear 5 = .ok (.return_, 1) := by decide +kernel
