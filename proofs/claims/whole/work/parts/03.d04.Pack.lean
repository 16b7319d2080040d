theorem d_Pack_init_0 : decode b_Pack_init 0 = .ok (.aload_n 0, 1) := by decide +kernel
theorem d_Pack_init_1 : decode b_Pack_init 1 = .ok (.invokespecial 3, 3) := by decide +kernel
theorem d_Pack_init_4 : decode b_Pack_init 4 = .ok (.aload_n 0, 1) := by decide +kernel
theorem d_Pack_init_5 : decode b_Pack_init 5 = .ok (.bipush 8, 2) := by decide +kernel
theorem d_Pack_init_7 : decode b_Pack_init 7 = .ok (.newarray .int, 2) := by decide +kernel
theorem d_Pack_init_9 : decode b_Pack_init 9 = .ok (.putfield 9, 3) := by decide +kernel
theorem d_Pack_init_12 : decode b_Pack_init 12 = .ok (.aload_n 0, 1) := by decide +kernel
theorem d_Pack_init_13 : decode b_Pack_init 13 = .ok (.bipush 8, 2) := by decide +kernel
theorem d_Pack_init_15 : decode b_Pack_init 15 = .ok (.newarray .int, 2) := by decide +kernel
theorem d_Pack_init_17 : decode b_Pack_init 17 = .ok (.putfield 15, 3) := by decide +kernel
theorem d_Pack_init_20 : decode b_Pack_init 20 = .ok (.aload_n 0, 1) := by decide +kernel
theorem d_Pack_init_21 : decode b_Pack_init 21 = .ok (.bipush 8, 2) := by decide +kernel
theorem d_Pack_init_23 : decode b_Pack_init 23 = .ok (.newarray .long, 2) := by decide +kernel
theorem d_Pack_init_25 : decode b_Pack_init 25 = .ok (.putfield 18, 3) := by decide +kernel
theorem d_Pack_init_28 : decode b_Pack_init 28 = .ok (.aload_n 0, 1) := by decide +kernel
theorem d_Pack_init_29 : decode b_Pack_init 29 = .ok (.bipush 8, 2) := by decide +kernel
theorem d_Pack_init_31 : decode b_Pack_init 31 = .ok (.newarray .int, 2) := by decide +kernel
theorem d_Pack_init_33 : decode b_Pack_init 33 = .ok (.putfield 22, 3) := by decide +kernel
theorem d_Pack_init_36 : decode b_Pack_init 36 = .ok (.aload_n 0, 1) := by decide +kernel
theorem d_Pack_init_37 : decode b_Pack_init 37 = .ok (.iconst 4, 1) := by decide +kernel
theorem d_Pack_init_38 : decode b_Pack_init 38 = .ok (.newarray .int, 2) := by decide +kernel
theorem d_Pack_init_40 : decode b_Pack_init 40 = .ok (.putfield 25, 3) := by decide +kernel
theorem d_Pack_init_43 : decode b_Pack_init 43 = .ok (.aload_n 0, 1) := by decide +kernel
theorem d_Pack_init_44 : decode b_Pack_init 44 = .ok (.iconst 4, 1) := by decide +kernel
theorem d_Pack_init_45 : decode b_Pack_init 45 = .ok (.newarray .long, 2) := by decide +kernel
theorem d_Pack_init_47 : decode b_Pack_init 47 = .ok (.putfield 28, 3) := by decide +kernel
theorem d_Pack_init_50 : decode b_Pack_init 50 = .ok (.aload_n 0, 1) := by decide +kernel
theorem d_Pack_init_51 : decode b_Pack_init 51 = .ok (.iconst 4, 1) := by decide +kernel
theorem d_Pack_init_52 : decode b_Pack_init 52 = .ok (.newarray .long, 2) := by decide +kernel
theorem d_Pack_init_54 : decode b_Pack_init 54 = .ok (.putfield 31, 3) := by decide +kernel
theorem d_Pack_init_57 : decode b_Pack_init 57 = .ok (.iconst 0, 1) := by decide +kernel
theorem d_Pack_init_58 : decode b_Pack_init 58 = .ok (.istore_n 1, 1) := by decide +kernel
theorem d_Pack_init_59 : decode b_Pack_init 59 = .ok (.iload_n 1, 1) := by decide +kernel
theorem d_Pack_init_60 : decode b_Pack_init 60 = .ok (.aload_n 0, 1) := by decide +kernel
theorem d_Pack_init_61 : decode b_Pack_init 61 = .ok (.getfield 9, 3) := by decide +kernel
theorem d_Pack_init_64 : decode b_Pack_init 64 = .ok (.arraylength, 1) := by decide +kernel
theorem d_Pack_init_65 : decode b_Pack_init 65 = .ok (.if_icmp .ge 16, 3) := by decide +kernel
theorem d_Pack_init_68 : decode b_Pack_init 68 = .ok (.aload_n 0, 1) := by decide +kernel
theorem d_Pack_init_69 : decode b_Pack_init 69 = .ok (.getfield 9, 3) := by decide +kernel
theorem d_Pack_init_72 : decode b_Pack_init 72 = .ok (.iload_n 1, 1) := by decide +kernel
theorem d_Pack_init_73 : decode b_Pack_init 73 = .ok (.iconst (-1), 1) := by decide +kernel
theorem d_Pack_init_74 : decode b_Pack_init 74 = .ok (.iastore, 1) := by decide +kernel
theorem d_Pack_init_75 : decode b_Pack_init 75 = .ok (.iinc 1 1, 3) := by decide +kernel
theorem d_Pack_init_78 : decode b_Pack_init 78 = .ok (.goto (-19), 3) := by decide +kernel
theorem d_Pack_init_81 : decode b_Pack_init 81 = .ok (.return_, 1) := by decide +kernel
theorem d_Pack_clear_0 : decode b_Pack_clear 0 = .ok (.aload_n 0, 1) := by decide +kernel
theorem d_Pack_clear_1 : decode b_Pack_clear 1 = .ok (.iconst 0, 1) := by decide +kernel
theorem d_Pack_clear_2 : decode b_Pack_clear 2 = .ok (.putfield 34, 3) := by decide +kernel
theorem d_Pack_clear_5 : decode b_Pack_clear 5 = .ok (.return_, 1) := by decide +kernel
theorem d_Pack_add_0 : decode b_Pack_add 0 = .ok (.aload_n 0, 1) := by decide +kernel
theorem d_Pack_add_1 : decode b_Pack_add 1 = .ok (.getfield 34, 3) := by decide +kernel
theorem d_Pack_add_4 : decode b_Pack_add 4 = .ok (.ifCond .lt 45, 3) := by decide +kernel
theorem d_Pack_add_7 : decode b_Pack_add 7 = .ok (.aload_n 0, 1) := by decide +kernel
theorem d_Pack_add_8 : decode b_Pack_add 8 = .ok (.getfield 34, 3) := by decide +kernel
theorem d_Pack_add_11 : decode b_Pack_add 11 = .ok (.aload_n 0, 1) := by decide +kernel
theorem d_Pack_add_12 : decode b_Pack_add 12 = .ok (.getfield 15, 3) := by decide +kernel
theorem d_Pack_add_15 : decode b_Pack_add 15 = .ok (.arraylength, 1) := by decide +kernel
theorem d_Pack_add_16 : decode b_Pack_add 16 = .ok (.if_icmp .ge 33, 3) := by decide +kernel
theorem d_Pack_add_19 : decode b_Pack_add 19 = .ok (.aload_n 0, 1) := by decide +kernel
theorem d_Pack_add_20 : decode b_Pack_add 20 = .ok (.getfield 15, 3) := by decide +kernel
theorem d_Pack_add_23 : decode b_Pack_add 23 = .ok (.aload_n 0, 1) := by decide +kernel
theorem d_Pack_add_24 : decode b_Pack_add 24 = .ok (.getfield 34, 3) := by decide +kernel
theorem d_Pack_add_27 : decode b_Pack_add 27 = .ok (.iload_n 1, 1) := by decide +kernel
theorem d_Pack_add_28 : decode b_Pack_add 28 = .ok (.iastore, 1) := by decide +kernel
theorem d_Pack_add_29 : decode b_Pack_add 29 = .ok (.aload_n 0, 1) := by decide +kernel
theorem d_Pack_add_30 : decode b_Pack_add 30 = .ok (.getfield 18, 3) := by decide +kernel
theorem d_Pack_add_33 : decode b_Pack_add 33 = .ok (.aload_n 0, 1) := by decide +kernel
theorem d_Pack_add_34 : decode b_Pack_add 34 = .ok (.getfield 34, 3) := by decide +kernel
theorem d_Pack_add_37 : decode b_Pack_add 37 = .ok (.lload_n 2, 1) := by decide +kernel
theorem d_Pack_add_38 : decode b_Pack_add 38 = .ok (.lastore, 1) := by decide +kernel
theorem d_Pack_add_39 : decode b_Pack_add 39 = .ok (.aload_n 0, 1) := by decide +kernel
theorem d_Pack_add_40 : decode b_Pack_add 40 = .ok (.dup, 1) := by decide +kernel
theorem d_Pack_add_41 : decode b_Pack_add 41 = .ok (.getfield 34, 3) := by decide +kernel
theorem d_Pack_add_44 : decode b_Pack_add 44 = .ok (.iconst 1, 1) := by decide +kernel
theorem d_Pack_add_45 : decode b_Pack_add 45 = .ok (.iadd, 1) := by decide +kernel
theorem d_Pack_add_46 : decode b_Pack_add 46 = .ok (.putfield 34, 3) := by decide +kernel
theorem d_Pack_add_49 : decode b_Pack_add 49 = .ok (.return_, 1) := by decide +kernel
theorem d_Pack_search_0 : decode b_Pack_search 0 = .ok (.iload_n 2, 1) := by decide +kernel
theorem d_Pack_search_1 : decode b_Pack_search 1 = .ok (.aload_n 0, 1) := by decide +kernel
theorem d_Pack_search_2 : decode b_Pack_search 2 = .ok (.getfield 25, 3) := by decide +kernel
theorem d_Pack_search_5 : decode b_Pack_search 5 = .ok (.arraylength, 1) := by decide +kernel
theorem d_Pack_search_6 : decode b_Pack_search 6 = .ok (.if_icmp .gt 13, 3) := by decide +kernel
theorem d_Pack_search_9 : decode b_Pack_search 9 = .ok (.iload_n 1, 1) := by decide +kernel
theorem d_Pack_search_10 : decode b_Pack_search 10 = .ok (.iload_n 2, 1) := by decide +kernel
theorem d_Pack_search_11 : decode b_Pack_search 11 = .ok (.imul, 1) := by decide +kernel
theorem d_Pack_search_12 : decode b_Pack_search 12 = .ok (.aload_n 0, 1) := by decide +kernel
theorem d_Pack_search_13 : decode b_Pack_search 13 = .ok (.getfield 34, 3) := by decide +kernel
theorem d_Pack_search_16 : decode b_Pack_search 16 = .ok (.if_icmp .le 7, 3) := by decide +kernel
theorem d_Pack_search_19 : decode b_Pack_search 19 = .ok (.ldc2_w 38, 3) := by decide +kernel
theorem d_Pack_search_22 : decode b_Pack_search 22 = .ok (.lreturn, 1) := by decide +kernel
theorem d_Pack_search_23 : decode b_Pack_search 23 = .ok (.aload_n 0, 1) := by decide +kernel
theorem d_Pack_search_24 : decode b_Pack_search 24 = .ok (.iload_n 1, 1) := by decide +kernel
theorem d_Pack_search_25 : decode b_Pack_search 25 = .ok (.putfield 40, 3) := by decide +kernel
theorem d_Pack_search_28 : decode b_Pack_search 28 = .ok (.aload_n 0, 1) := by decide +kernel
theorem d_Pack_search_29 : decode b_Pack_search 29 = .ok (.iload_n 2, 1) := by decide +kernel
theorem d_Pack_search_30 : decode b_Pack_search 30 = .ok (.putfield 43, 3) := by decide +kernel
theorem d_Pack_search_33 : decode b_Pack_search 33 = .ok (.aload_n 0, 1) := by decide +kernel
theorem d_Pack_search_34 : decode b_Pack_search 34 = .ok (.ldc2_w 48, 3) := by decide +kernel
theorem d_Pack_search_37 : decode b_Pack_search 37 = .ok (.putfield 50, 3) := by decide +kernel
theorem d_Pack_search_40 : decode b_Pack_search 40 = .ok (.iconst 0, 1) := by decide +kernel
theorem d_Pack_search_41 : decode b_Pack_search 41 = .ok (.istore_n 3, 1) := by decide +kernel
theorem d_Pack_search_42 : decode b_Pack_search 42 = .ok (.iload_n 3, 1) := by decide +kernel
theorem d_Pack_search_43 : decode b_Pack_search 43 = .ok (.aload_n 0, 1) := by decide +kernel
theorem d_Pack_search_44 : decode b_Pack_search 44 = .ok (.getfield 25, 3) := by decide +kernel
theorem d_Pack_search_47 : decode b_Pack_search 47 = .ok (.arraylength, 1) := by decide +kernel
theorem d_Pack_search_48 : decode b_Pack_search 48 = .ok (.if_icmp .ge 16, 3) := by decide +kernel
theorem d_Pack_search_51 : decode b_Pack_search 51 = .ok (.aload_n 0, 1) := by decide +kernel
theorem d_Pack_search_52 : decode b_Pack_search 52 = .ok (.getfield 25, 3) := by decide +kernel
theorem d_Pack_search_55 : decode b_Pack_search 55 = .ok (.iload_n 3, 1) := by decide +kernel
theorem d_Pack_search_56 : decode b_Pack_search 56 = .ok (.iconst 0, 1) := by decide +kernel
theorem d_Pack_search_57 : decode b_Pack_search 57 = .ok (.iastore, 1) := by decide +kernel
theorem d_Pack_search_58 : decode b_Pack_search 58 = .ok (.iinc 3 1, 3) := by decide +kernel
theorem d_Pack_search_61 : decode b_Pack_search 61 = .ok (.goto (-19), 3) := by decide +kernel
theorem d_Pack_search_64 : decode b_Pack_search 64 = .ok (.aload_n 0, 1) := by decide +kernel
theorem d_Pack_search_65 : decode b_Pack_search 65 = .ok (.iconst 0, 1) := by decide +kernel
theorem d_Pack_search_66 : decode b_Pack_search 66 = .ok (.iconst 0, 1) := by decide +kernel
theorem d_Pack_search_67 : decode b_Pack_search 67 = .ok (.iload_n 1, 1) := by decide +kernel
theorem d_Pack_search_68 : decode b_Pack_search 68 = .ok (.iload_n 2, 1) := by decide +kernel
theorem d_Pack_search_69 : decode b_Pack_search 69 = .ok (.imul, 1) := by decide +kernel
theorem d_Pack_search_70 : decode b_Pack_search 70 = .ok (.lconst 0, 1) := by decide +kernel
theorem d_Pack_search_71 : decode b_Pack_search 71 = .ok (.invokevirtual 54, 3) := by decide +kernel
theorem d_Pack_search_74 : decode b_Pack_search 74 = .ok (.aload_n 0, 1) := by decide +kernel
theorem d_Pack_search_75 : decode b_Pack_search 75 = .ok (.getfield 50, 3) := by decide +kernel
theorem d_Pack_search_78 : decode b_Pack_search 78 = .ok (.lreturn, 1) := by decide +kernel
theorem d_Pack_place_0 : decode b_Pack_place 0 = .ok (.iload_n 1, 1) := by decide +kernel
theorem d_Pack_place_1 : decode b_Pack_place 1 = .ok (.ifCond .lt 23, 3) := by decide +kernel
theorem d_Pack_place_4 : decode b_Pack_place 4 = .ok (.iload_n 3, 1) := by decide +kernel
theorem d_Pack_place_5 : decode b_Pack_place 5 = .ok (.aload_n 0, 1) := by decide +kernel
theorem d_Pack_place_6 : decode b_Pack_place 6 = .ok (.getfield 34, 3) := by decide +kernel
theorem d_Pack_place_9 : decode b_Pack_place 9 = .ok (.iload_n 1, 1) := by decide +kernel
theorem d_Pack_place_10 : decode b_Pack_place 10 = .ok (.isub, 1) := by decide +kernel
theorem d_Pack_place_11 : decode b_Pack_place 11 = .ok (.if_icmp .gt 13, 3) := by decide +kernel
theorem d_Pack_place_14 : decode b_Pack_place 14 = .ok (.lload 4, 2) := by decide +kernel
theorem d_Pack_place_16 : decode b_Pack_place 16 = .ok (.aload_n 0, 1) := by decide +kernel
theorem d_Pack_place_17 : decode b_Pack_place 17 = .ok (.getfield 50, 3) := by decide +kernel
theorem d_Pack_place_20 : decode b_Pack_place 20 = .ok (.lcmp, 1) := by decide +kernel
theorem d_Pack_place_21 : decode b_Pack_place 21 = .ok (.ifCond .lt 4, 3) := by decide +kernel
theorem d_Pack_place_24 : decode b_Pack_place 24 = .ok (.return_, 1) := by decide +kernel
theorem d_Pack_place_25 : decode b_Pack_place 25 = .ok (.iload_n 1, 1) := by decide +kernel
theorem d_Pack_place_26 : decode b_Pack_place 26 = .ok (.aload_n 0, 1) := by decide +kernel
theorem d_Pack_place_27 : decode b_Pack_place 27 = .ok (.getfield 34, 3) := by decide +kernel
theorem d_Pack_place_30 : decode b_Pack_place 30 = .ok (.if_icmp .ge 12, 3) := by decide +kernel
theorem d_Pack_place_33 : decode b_Pack_place 33 = .ok (.iload_n 1, 1) := by decide +kernel
theorem d_Pack_place_34 : decode b_Pack_place 34 = .ok (.aload_n 0, 1) := by decide +kernel
theorem d_Pack_place_35 : decode b_Pack_place 35 = .ok (.getfield 22, 3) := by decide +kernel
theorem d_Pack_place_38 : decode b_Pack_place 38 = .ok (.arraylength, 1) := by decide +kernel
theorem d_Pack_place_39 : decode b_Pack_place 39 = .ok (.if_icmp .lt 10, 3) := by decide +kernel
theorem d_Pack_place_42 : decode b_Pack_place 42 = .ok (.aload_n 0, 1) := by decide +kernel
theorem d_Pack_place_43 : decode b_Pack_place 43 = .ok (.lload 4, 2) := by decide +kernel
theorem d_Pack_place_45 : decode b_Pack_place 45 = .ok (.invokevirtual 58, 3) := by decide +kernel
theorem d_Pack_place_48 : decode b_Pack_place 48 = .ok (.return_, 1) := by decide +kernel
theorem d_Pack_place_49 : decode b_Pack_place 49 = .ok (.iconst 0, 1) := by decide +kernel
theorem d_Pack_place_50 : decode b_Pack_place 50 = .ok (.istore 6, 2) := by decide +kernel
theorem d_Pack_place_52 : decode b_Pack_place 52 = .ok (.iload 6, 2) := by decide +kernel
theorem d_Pack_place_54 : decode b_Pack_place 54 = .ok (.iload_n 2, 1) := by decide +kernel
theorem d_Pack_place_55 : decode b_Pack_place 55 = .ok (.if_icmp .gt 29, 3) := by decide +kernel
theorem d_Pack_place_58 : decode b_Pack_place 58 = .ok (.iload 6, 2) := by decide +kernel
theorem d_Pack_place_60 : decode b_Pack_place 60 = .ok (.aload_n 0, 1) := by decide +kernel
theorem d_Pack_place_61 : decode b_Pack_place 61 = .ok (.getfield 43, 3) := by decide +kernel
theorem d_Pack_place_64 : decode b_Pack_place 64 = .ok (.if_icmp .ge 20, 3) := by decide +kernel
theorem d_Pack_place_67 : decode b_Pack_place 67 = .ok (.aload_n 0, 1) := by decide +kernel
theorem d_Pack_place_68 : decode b_Pack_place 68 = .ok (.iload 6, 2) := by decide +kernel
theorem d_Pack_place_70 : decode b_Pack_place 70 = .ok (.iload_n 1, 1) := by decide +kernel
theorem d_Pack_place_71 : decode b_Pack_place 71 = .ok (.iload_n 2, 1) := by decide +kernel
theorem d_Pack_place_72 : decode b_Pack_place 72 = .ok (.iload_n 3, 1) := by decide +kernel
theorem d_Pack_place_73 : decode b_Pack_place 73 = .ok (.lload 4, 2) := by decide +kernel
theorem d_Pack_place_75 : decode b_Pack_place 75 = .ok (.invokevirtual 62, 3) := by decide +kernel
theorem d_Pack_place_78 : decode b_Pack_place 78 = .ok (.iinc 6 1, 3) := by decide +kernel
theorem d_Pack_place_81 : decode b_Pack_place 81 = .ok (.goto (-29), 3) := by decide +kernel
theorem d_Pack_place_84 : decode b_Pack_place 84 = .ok (.aload_n 0, 1) := by decide +kernel
theorem d_Pack_place_85 : decode b_Pack_place 85 = .ok (.getfield 22, 3) := by decide +kernel
theorem d_Pack_place_88 : decode b_Pack_place 88 = .ok (.iload_n 1, 1) := by decide +kernel
theorem d_Pack_place_89 : decode b_Pack_place 89 = .ok (.iconst (-1), 1) := by decide +kernel
theorem d_Pack_place_90 : decode b_Pack_place 90 = .ok (.iastore, 1) := by decide +kernel
theorem d_Pack_place_91 : decode b_Pack_place 91 = .ok (.aload_n 0, 1) := by decide +kernel
theorem d_Pack_place_92 : decode b_Pack_place 92 = .ok (.iload_n 1, 1) := by decide +kernel
theorem d_Pack_place_93 : decode b_Pack_place 93 = .ok (.iconst 1, 1) := by decide +kernel
theorem d_Pack_place_94 : decode b_Pack_place 94 = .ok (.iadd, 1) := by decide +kernel
theorem d_Pack_place_95 : decode b_Pack_place 95 = .ok (.iload_n 2, 1) := by decide +kernel
theorem d_Pack_place_96 : decode b_Pack_place 96 = .ok (.iload_n 3, 1) := by decide +kernel
theorem d_Pack_place_97 : decode b_Pack_place 97 = .ok (.lload 4, 2) := by decide +kernel
theorem d_Pack_place_99 : decode b_Pack_place 99 = .ok (.invokevirtual 54, 3) := by decide +kernel
theorem d_Pack_place_102 : decode b_Pack_place 102 = .ok (.return_, 1) := by decide +kernel
theorem d_Pack_keep_0 : decode b_Pack_keep 0 = .ok (.aload_n 0, 1) := by decide +kernel
theorem d_Pack_keep_1 : decode b_Pack_keep 1 = .ok (.lload_n 1, 1) := by decide +kernel
theorem d_Pack_keep_2 : decode b_Pack_keep 2 = .ok (.putfield 50, 3) := by decide +kernel
theorem d_Pack_keep_5 : decode b_Pack_keep 5 = .ok (.iconst 0, 1) := by decide +kernel
theorem d_Pack_keep_6 : decode b_Pack_keep 6 = .ok (.istore_n 3, 1) := by decide +kernel
theorem d_Pack_keep_7 : decode b_Pack_keep 7 = .ok (.iload_n 3, 1) := by decide +kernel
theorem d_Pack_keep_8 : decode b_Pack_keep 8 = .ok (.aload_n 0, 1) := by decide +kernel
theorem d_Pack_keep_9 : decode b_Pack_keep 9 = .ok (.getfield 9, 3) := by decide +kernel
theorem d_Pack_keep_12 : decode b_Pack_keep 12 = .ok (.arraylength, 1) := by decide +kernel
theorem d_Pack_keep_13 : decode b_Pack_keep 13 = .ok (.if_icmp .ge 16, 3) := by decide +kernel
theorem d_Pack_keep_16 : decode b_Pack_keep 16 = .ok (.aload_n 0, 1) := by decide +kernel
theorem d_Pack_keep_17 : decode b_Pack_keep 17 = .ok (.getfield 9, 3) := by decide +kernel
theorem d_Pack_keep_20 : decode b_Pack_keep 20 = .ok (.iload_n 3, 1) := by decide +kernel
theorem d_Pack_keep_21 : decode b_Pack_keep 21 = .ok (.iconst (-1), 1) := by decide +kernel
theorem d_Pack_keep_22 : decode b_Pack_keep 22 = .ok (.iastore, 1) := by decide +kernel
theorem d_Pack_keep_23 : decode b_Pack_keep 23 = .ok (.iinc 3 1, 3) := by decide +kernel
theorem d_Pack_keep_26 : decode b_Pack_keep 26 = .ok (.goto (-19), 3) := by decide +kernel
theorem d_Pack_keep_29 : decode b_Pack_keep 29 = .ok (.iconst 0, 1) := by decide +kernel
theorem d_Pack_keep_30 : decode b_Pack_keep 30 = .ok (.istore_n 3, 1) := by decide +kernel
theorem d_Pack_keep_31 : decode b_Pack_keep 31 = .ok (.iload_n 3, 1) := by decide +kernel
theorem d_Pack_keep_32 : decode b_Pack_keep 32 = .ok (.aload_n 0, 1) := by decide +kernel
theorem d_Pack_keep_33 : decode b_Pack_keep 33 = .ok (.getfield 34, 3) := by decide +kernel
theorem d_Pack_keep_36 : decode b_Pack_keep 36 = .ok (.if_icmp .ge 54, 3) := by decide +kernel
theorem d_Pack_keep_39 : decode b_Pack_keep 39 = .ok (.iload_n 3, 1) := by decide +kernel
theorem d_Pack_keep_40 : decode b_Pack_keep 40 = .ok (.aload_n 0, 1) := by decide +kernel
theorem d_Pack_keep_41 : decode b_Pack_keep 41 = .ok (.getfield 15, 3) := by decide +kernel
theorem d_Pack_keep_44 : decode b_Pack_keep 44 = .ok (.arraylength, 1) := by decide +kernel
theorem d_Pack_keep_45 : decode b_Pack_keep 45 = .ok (.if_icmp .ge 45, 3) := by decide +kernel
theorem d_Pack_keep_48 : decode b_Pack_keep 48 = .ok (.aload_n 0, 1) := by decide +kernel
theorem d_Pack_keep_49 : decode b_Pack_keep 49 = .ok (.getfield 15, 3) := by decide +kernel
theorem d_Pack_keep_52 : decode b_Pack_keep 52 = .ok (.iload_n 3, 1) := by decide +kernel
theorem d_Pack_keep_53 : decode b_Pack_keep 53 = .ok (.iaload, 1) := by decide +kernel
theorem d_Pack_keep_54 : decode b_Pack_keep 54 = .ok (.istore 4, 2) := by decide +kernel
theorem d_Pack_keep_56 : decode b_Pack_keep 56 = .ok (.iload 4, 2) := by decide +kernel
theorem d_Pack_keep_58 : decode b_Pack_keep 58 = .ok (.ifCond .lt 26, 3) := by decide +kernel
theorem d_Pack_keep_61 : decode b_Pack_keep 61 = .ok (.iload 4, 2) := by decide +kernel
theorem d_Pack_keep_63 : decode b_Pack_keep 63 = .ok (.aload_n 0, 1) := by decide +kernel
theorem d_Pack_keep_64 : decode b_Pack_keep 64 = .ok (.getfield 9, 3) := by decide +kernel
theorem d_Pack_keep_67 : decode b_Pack_keep 67 = .ok (.arraylength, 1) := by decide +kernel
theorem d_Pack_keep_68 : decode b_Pack_keep 68 = .ok (.if_icmp .ge 16, 3) := by decide +kernel
theorem d_Pack_keep_71 : decode b_Pack_keep 71 = .ok (.aload_n 0, 1) := by decide +kernel
theorem d_Pack_keep_72 : decode b_Pack_keep 72 = .ok (.getfield 9, 3) := by decide +kernel
theorem d_Pack_keep_75 : decode b_Pack_keep 75 = .ok (.iload 4, 2) := by decide +kernel
theorem d_Pack_keep_77 : decode b_Pack_keep 77 = .ok (.aload_n 0, 1) := by decide +kernel
theorem d_Pack_keep_78 : decode b_Pack_keep 78 = .ok (.getfield 22, 3) := by decide +kernel
theorem d_Pack_keep_81 : decode b_Pack_keep 81 = .ok (.iload_n 3, 1) := by decide +kernel
theorem d_Pack_keep_82 : decode b_Pack_keep 82 = .ok (.iaload, 1) := by decide +kernel
theorem d_Pack_keep_83 : decode b_Pack_keep 83 = .ok (.iastore, 1) := by decide +kernel
theorem d_Pack_keep_84 : decode b_Pack_keep 84 = .ok (.iinc 3 1, 3) := by decide +kernel
theorem d_Pack_keep_87 : decode b_Pack_keep 87 = .ok (.goto (-56), 3) := by decide +kernel
theorem d_Pack_keep_90 : decode b_Pack_keep 90 = .ok (.return_, 1) := by decide +kernel
theorem d_Pack_placeIn_0 : decode b_Pack_placeIn 0 = .ok (.iload_n 1, 1) := by decide +kernel
theorem d_Pack_placeIn_1 : decode b_Pack_placeIn 1 = .ok (.ifCond .lt 38, 3) := by decide +kernel
theorem d_Pack_placeIn_4 : decode b_Pack_placeIn 4 = .ok (.iload_n 1, 1) := by decide +kernel
theorem d_Pack_placeIn_5 : decode b_Pack_placeIn 5 = .ok (.aload_n 0, 1) := by decide +kernel
theorem d_Pack_placeIn_6 : decode b_Pack_placeIn 6 = .ok (.getfield 25, 3) := by decide +kernel
theorem d_Pack_placeIn_9 : decode b_Pack_placeIn 9 = .ok (.arraylength, 1) := by decide +kernel
theorem d_Pack_placeIn_10 : decode b_Pack_placeIn 10 = .ok (.if_icmp .ge 29, 3) := by decide +kernel
theorem d_Pack_placeIn_13 : decode b_Pack_placeIn 13 = .ok (.iload_n 2, 1) := by decide +kernel
theorem d_Pack_placeIn_14 : decode b_Pack_placeIn 14 = .ok (.ifCond .lt 25, 3) := by decide +kernel
theorem d_Pack_placeIn_17 : decode b_Pack_placeIn 17 = .ok (.iload_n 2, 1) := by decide +kernel
theorem d_Pack_placeIn_18 : decode b_Pack_placeIn 18 = .ok (.aload_n 0, 1) := by decide +kernel
theorem d_Pack_placeIn_19 : decode b_Pack_placeIn 19 = .ok (.getfield 22, 3) := by decide +kernel
theorem d_Pack_placeIn_22 : decode b_Pack_placeIn 22 = .ok (.arraylength, 1) := by decide +kernel
theorem d_Pack_placeIn_23 : decode b_Pack_placeIn 23 = .ok (.if_icmp .ge 16, 3) := by decide +kernel
theorem d_Pack_placeIn_26 : decode b_Pack_placeIn 26 = .ok (.aload_n 0, 1) := by decide +kernel
theorem d_Pack_placeIn_27 : decode b_Pack_placeIn 27 = .ok (.getfield 25, 3) := by decide +kernel
theorem d_Pack_placeIn_30 : decode b_Pack_placeIn 30 = .ok (.iload_n 1, 1) := by decide +kernel
theorem d_Pack_placeIn_31 : decode b_Pack_placeIn 31 = .ok (.iaload, 1) := by decide +kernel
theorem d_Pack_placeIn_32 : decode b_Pack_placeIn 32 = .ok (.aload_n 0, 1) := by decide +kernel
theorem d_Pack_placeIn_33 : decode b_Pack_placeIn 33 = .ok (.getfield 40, 3) := by decide +kernel
theorem d_Pack_placeIn_36 : decode b_Pack_placeIn 36 = .ok (.if_icmp .lt 4, 3) := by decide +kernel
theorem d_Pack_placeIn_39 : decode b_Pack_placeIn 39 = .ok (.return_, 1) := by decide +kernel
theorem d_Pack_placeIn_40 : decode b_Pack_placeIn 40 = .ok (.aload_n 0, 1) := by decide +kernel
theorem d_Pack_placeIn_41 : decode b_Pack_placeIn 41 = .ok (.getfield 28, 3) := by decide +kernel
theorem d_Pack_placeIn_44 : decode b_Pack_placeIn 44 = .ok (.iload_n 1, 1) := by decide +kernel
theorem d_Pack_placeIn_45 : decode b_Pack_placeIn 45 = .ok (.laload, 1) := by decide +kernel
theorem d_Pack_placeIn_46 : decode b_Pack_placeIn 46 = .ok (.lstore 7, 2) := by decide +kernel
theorem d_Pack_placeIn_48 : decode b_Pack_placeIn 48 = .ok (.aload_n 0, 1) := by decide +kernel
theorem d_Pack_placeIn_49 : decode b_Pack_placeIn 49 = .ok (.getfield 31, 3) := by decide +kernel
theorem d_Pack_placeIn_52 : decode b_Pack_placeIn 52 = .ok (.iload_n 1, 1) := by decide +kernel
theorem d_Pack_placeIn_53 : decode b_Pack_placeIn 53 = .ok (.laload, 1) := by decide +kernel
theorem d_Pack_placeIn_54 : decode b_Pack_placeIn 54 = .ok (.lstore 9, 2) := by decide +kernel
theorem d_Pack_placeIn_56 : decode b_Pack_placeIn 56 = .ok (.aload_n 0, 1) := by decide +kernel
theorem d_Pack_placeIn_57 : decode b_Pack_placeIn 57 = .ok (.getfield 25, 3) := by decide +kernel
theorem d_Pack_placeIn_60 : decode b_Pack_placeIn 60 = .ok (.iload_n 1, 1) := by decide +kernel
theorem d_Pack_placeIn_61 : decode b_Pack_placeIn 61 = .ok (.iaload, 1) := by decide +kernel
theorem d_Pack_placeIn_62 : decode b_Pack_placeIn 62 = .ok (.ifCond .ne 7, 3) := by decide +kernel
theorem d_Pack_placeIn_65 : decode b_Pack_placeIn 65 = .ok (.iconst 1, 1) := by decide +kernel
theorem d_Pack_placeIn_66 : decode b_Pack_placeIn 66 = .ok (.goto 4, 3) := by decide +kernel
theorem d_Pack_placeIn_69 : decode b_Pack_placeIn 69 = .ok (.iconst 0, 1) := by decide +kernel
theorem d_Pack_placeIn_70 : decode b_Pack_placeIn 70 = .ok (.istore 11, 2) := by decide +kernel
theorem d_Pack_placeIn_72 : decode b_Pack_placeIn 72 = .ok (.iload 11, 2) := by decide +kernel
theorem d_Pack_placeIn_74 : decode b_Pack_placeIn 74 = .ok (.ifCond .eq 7, 3) := by decide +kernel
theorem d_Pack_placeIn_77 : decode b_Pack_placeIn 77 = .ok (.lconst 0, 1) := by decide +kernel
theorem d_Pack_placeIn_78 : decode b_Pack_placeIn 78 = .ok (.goto 8, 3) := by decide +kernel
theorem d_Pack_placeIn_81 : decode b_Pack_placeIn 81 = .ok (.lload 9, 2) := by decide +kernel
theorem d_Pack_placeIn_83 : decode b_Pack_placeIn 83 = .ok (.lload 7, 2) := by decide +kernel
theorem d_Pack_placeIn_85 : decode b_Pack_placeIn 85 = .ok (.lsub, 1) := by decide +kernel
theorem d_Pack_placeIn_86 : decode b_Pack_placeIn 86 = .ok (.lstore 12, 2) := by decide +kernel
theorem d_Pack_placeIn_88 : decode b_Pack_placeIn 88 = .ok (.aload_n 0, 1) := by decide +kernel
theorem d_Pack_placeIn_89 : decode b_Pack_placeIn 89 = .ok (.getfield 28, 3) := by decide +kernel
theorem d_Pack_placeIn_92 : decode b_Pack_placeIn 92 = .ok (.iload_n 1, 1) := by decide +kernel
theorem d_Pack_placeIn_93 : decode b_Pack_placeIn 93 = .ok (.iload 11, 2) := by decide +kernel
theorem d_Pack_placeIn_95 : decode b_Pack_placeIn 95 = .ok (.ifCond .eq 12, 3) := by decide +kernel
theorem d_Pack_placeIn_98 : decode b_Pack_placeIn 98 = .ok (.aload_n 0, 1) := by decide +kernel
theorem d_Pack_placeIn_99 : decode b_Pack_placeIn 99 = .ok (.getfield 18, 3) := by decide +kernel
theorem d_Pack_placeIn_102 : decode b_Pack_placeIn 102 = .ok (.iload_n 2, 1) := by decide +kernel
theorem d_Pack_placeIn_103 : decode b_Pack_placeIn 103 = .ok (.laload, 1) := by decide +kernel
theorem d_Pack_placeIn_104 : decode b_Pack_placeIn 104 = .ok (.goto 14, 3) := by decide +kernel
theorem d_Pack_placeIn_107 : decode b_Pack_placeIn 107 = .ok (.lload 7, 2) := by decide +kernel
theorem d_Pack_placeIn_109 : decode b_Pack_placeIn 109 = .ok (.aload_n 0, 1) := by decide +kernel
theorem d_Pack_placeIn_110 : decode b_Pack_placeIn 110 = .ok (.getfield 18, 3) := by decide +kernel
theorem d_Pack_placeIn_113 : decode b_Pack_placeIn 113 = .ok (.iload_n 2, 1) := by decide +kernel
theorem d_Pack_placeIn_114 : decode b_Pack_placeIn 114 = .ok (.laload, 1) := by decide +kernel
theorem d_Pack_placeIn_115 : decode b_Pack_placeIn 115 = .ok (.invokestatic 66, 3) := by decide +kernel
theorem d_Pack_placeIn_118 : decode b_Pack_placeIn 118 = .ok (.lastore, 1) := by decide +kernel
theorem d_Pack_placeIn_119 : decode b_Pack_placeIn 119 = .ok (.aload_n 0, 1) := by decide +kernel
theorem d_Pack_placeIn_120 : decode b_Pack_placeIn 120 = .ok (.getfield 31, 3) := by decide +kernel
theorem d_Pack_placeIn_123 : decode b_Pack_placeIn 123 = .ok (.iload_n 1, 1) := by decide +kernel
theorem d_Pack_placeIn_124 : decode b_Pack_placeIn 124 = .ok (.iload 11, 2) := by decide +kernel
theorem d_Pack_placeIn_126 : decode b_Pack_placeIn 126 = .ok (.ifCond .eq 12, 3) := by decide +kernel
theorem d_Pack_placeIn_129 : decode b_Pack_placeIn 129 = .ok (.aload_n 0, 1) := by decide +kernel
theorem d_Pack_placeIn_130 : decode b_Pack_placeIn 130 = .ok (.getfield 18, 3) := by decide +kernel
theorem d_Pack_placeIn_133 : decode b_Pack_placeIn 133 = .ok (.iload_n 2, 1) := by decide +kernel
theorem d_Pack_placeIn_134 : decode b_Pack_placeIn 134 = .ok (.laload, 1) := by decide +kernel
theorem d_Pack_placeIn_135 : decode b_Pack_placeIn 135 = .ok (.goto 14, 3) := by decide +kernel
theorem d_Pack_placeIn_138 : decode b_Pack_placeIn 138 = .ok (.lload 9, 2) := by decide +kernel
theorem d_Pack_placeIn_140 : decode b_Pack_placeIn 140 = .ok (.aload_n 0, 1) := by decide +kernel
theorem d_Pack_placeIn_141 : decode b_Pack_placeIn 141 = .ok (.getfield 18, 3) := by decide +kernel
theorem d_Pack_placeIn_144 : decode b_Pack_placeIn 144 = .ok (.iload_n 2, 1) := by decide +kernel
theorem d_Pack_placeIn_145 : decode b_Pack_placeIn 145 = .ok (.laload, 1) := by decide +kernel
theorem d_Pack_placeIn_146 : decode b_Pack_placeIn 146 = .ok (.invokestatic 72, 3) := by decide +kernel
theorem d_Pack_placeIn_149 : decode b_Pack_placeIn 149 = .ok (.lastore, 1) := by decide +kernel
theorem d_Pack_placeIn_150 : decode b_Pack_placeIn 150 = .ok (.aload_n 0, 1) := by decide +kernel
theorem d_Pack_placeIn_151 : decode b_Pack_placeIn 151 = .ok (.getfield 25, 3) := by decide +kernel
theorem d_Pack_placeIn_154 : decode b_Pack_placeIn 154 = .ok (.iload_n 1, 1) := by decide +kernel
theorem d_Pack_placeIn_155 : decode b_Pack_placeIn 155 = .ok (.dup2, 1) := by decide +kernel
theorem d_Pack_placeIn_156 : decode b_Pack_placeIn 156 = .ok (.iaload, 1) := by decide +kernel
theorem d_Pack_placeIn_157 : decode b_Pack_placeIn 157 = .ok (.iconst 1, 1) := by decide +kernel
theorem d_Pack_placeIn_158 : decode b_Pack_placeIn 158 = .ok (.iadd, 1) := by decide +kernel
theorem d_Pack_placeIn_159 : decode b_Pack_placeIn 159 = .ok (.iastore, 1) := by decide +kernel
theorem d_Pack_placeIn_160 : decode b_Pack_placeIn 160 = .ok (.aload_n 0, 1) := by decide +kernel
theorem d_Pack_placeIn_161 : decode b_Pack_placeIn 161 = .ok (.getfield 22, 3) := by decide +kernel
theorem d_Pack_placeIn_164 : decode b_Pack_placeIn 164 = .ok (.iload_n 2, 1) := by decide +kernel
theorem d_Pack_placeIn_165 : decode b_Pack_placeIn 165 = .ok (.iload_n 1, 1) := by decide +kernel
theorem d_Pack_placeIn_166 : decode b_Pack_placeIn 166 = .ok (.iastore, 1) := by decide +kernel
theorem d_Pack_placeIn_167 : decode b_Pack_placeIn 167 = .ok (.aload_n 0, 1) := by decide +kernel
theorem d_Pack_placeIn_168 : decode b_Pack_placeIn 168 = .ok (.getfield 31, 3) := by decide +kernel
theorem d_Pack_placeIn_171 : decode b_Pack_placeIn 171 = .ok (.iload_n 1, 1) := by decide +kernel
theorem d_Pack_placeIn_172 : decode b_Pack_placeIn 172 = .ok (.laload, 1) := by decide +kernel
theorem d_Pack_placeIn_173 : decode b_Pack_placeIn 173 = .ok (.aload_n 0, 1) := by decide +kernel
theorem d_Pack_placeIn_174 : decode b_Pack_placeIn 174 = .ok (.getfield 28, 3) := by decide +kernel
theorem d_Pack_placeIn_177 : decode b_Pack_placeIn 177 = .ok (.iload_n 1, 1) := by decide +kernel
theorem d_Pack_placeIn_178 : decode b_Pack_placeIn 178 = .ok (.laload, 1) := by decide +kernel
theorem d_Pack_placeIn_179 : decode b_Pack_placeIn 179 = .ok (.lsub, 1) := by decide +kernel
theorem d_Pack_placeIn_180 : decode b_Pack_placeIn 180 = .ok (.lload 12, 2) := by decide +kernel
theorem d_Pack_placeIn_182 : decode b_Pack_placeIn 182 = .ok (.lsub, 1) := by decide +kernel
theorem d_Pack_placeIn_183 : decode b_Pack_placeIn 183 = .ok (.lstore 14, 2) := by decide +kernel
theorem d_Pack_placeIn_185 : decode b_Pack_placeIn 185 = .ok (.aload_n 0, 1) := by decide +kernel
theorem d_Pack_placeIn_186 : decode b_Pack_placeIn 186 = .ok (.iload_n 2, 1) := by decide +kernel
theorem d_Pack_placeIn_187 : decode b_Pack_placeIn 187 = .ok (.iconst 1, 1) := by decide +kernel
theorem d_Pack_placeIn_188 : decode b_Pack_placeIn 188 = .ok (.iadd, 1) := by decide +kernel
theorem d_Pack_placeIn_189 : decode b_Pack_placeIn 189 = .ok (.iload 11, 2) := by decide +kernel
theorem d_Pack_placeIn_191 : decode b_Pack_placeIn 191 = .ok (.ifCond .eq 9, 3) := by decide +kernel
theorem d_Pack_placeIn_194 : decode b_Pack_placeIn 194 = .ok (.iload_n 3, 1) := by decide +kernel
theorem d_Pack_placeIn_195 : decode b_Pack_placeIn 195 = .ok (.iconst 1, 1) := by decide +kernel
theorem d_Pack_placeIn_196 : decode b_Pack_placeIn 196 = .ok (.iadd, 1) := by decide +kernel
theorem d_Pack_placeIn_197 : decode b_Pack_placeIn 197 = .ok (.goto 4, 3) := by decide +kernel
theorem d_Pack_placeIn_200 : decode b_Pack_placeIn 200 = .ok (.iload_n 3, 1) := by decide +kernel
theorem d_Pack_placeIn_201 : decode b_Pack_placeIn 201 = .ok (.iload 4, 2) := by decide +kernel
theorem d_Pack_placeIn_203 : decode b_Pack_placeIn 203 = .ok (.iconst 1, 1) := by decide +kernel
theorem d_Pack_placeIn_204 : decode b_Pack_placeIn 204 = .ok (.isub, 1) := by decide +kernel
theorem d_Pack_placeIn_205 : decode b_Pack_placeIn 205 = .ok (.lload 5, 2) := by decide +kernel
theorem d_Pack_placeIn_207 : decode b_Pack_placeIn 207 = .ok (.lload 14, 2) := by decide +kernel
theorem d_Pack_placeIn_209 : decode b_Pack_placeIn 209 = .ok (.ladd, 1) := by decide +kernel
theorem d_Pack_placeIn_210 : decode b_Pack_placeIn 210 = .ok (.invokevirtual 54, 3) := by decide +kernel
theorem d_Pack_placeIn_213 : decode b_Pack_placeIn 213 = .ok (.aload_n 0, 1) := by decide +kernel
theorem d_Pack_placeIn_214 : decode b_Pack_placeIn 214 = .ok (.getfield 25, 3) := by decide +kernel
theorem d_Pack_placeIn_217 : decode b_Pack_placeIn 217 = .ok (.iload_n 1, 1) := by decide +kernel
theorem d_Pack_placeIn_218 : decode b_Pack_placeIn 218 = .ok (.dup2, 1) := by decide +kernel
theorem d_Pack_placeIn_219 : decode b_Pack_placeIn 219 = .ok (.iaload, 1) := by decide +kernel
theorem d_Pack_placeIn_220 : decode b_Pack_placeIn 220 = .ok (.iconst 1, 1) := by decide +kernel
theorem d_Pack_placeIn_221 : decode b_Pack_placeIn 221 = .ok (.isub, 1) := by decide +kernel
theorem d_Pack_placeIn_222 : decode b_Pack_placeIn 222 = .ok (.iastore, 1) := by decide +kernel
theorem d_Pack_placeIn_223 : decode b_Pack_placeIn 223 = .ok (.aload_n 0, 1) := by decide +kernel
theorem d_Pack_placeIn_224 : decode b_Pack_placeIn 224 = .ok (.getfield 28, 3) := by decide +kernel
theorem d_Pack_placeIn_227 : decode b_Pack_placeIn 227 = .ok (.iload_n 1, 1) := by decide +kernel
theorem d_Pack_placeIn_228 : decode b_Pack_placeIn 228 = .ok (.lload 7, 2) := by decide +kernel
theorem d_Pack_placeIn_230 : decode b_Pack_placeIn 230 = .ok (.lastore, 1) := by decide +kernel
theorem d_Pack_placeIn_231 : decode b_Pack_placeIn 231 = .ok (.aload_n 0, 1) := by decide +kernel
theorem d_Pack_placeIn_232 : decode b_Pack_placeIn 232 = .ok (.getfield 31, 3) := by decide +kernel
theorem d_Pack_placeIn_235 : decode b_Pack_placeIn 235 = .ok (.iload_n 1, 1) := by decide +kernel
theorem d_Pack_placeIn_236 : decode b_Pack_placeIn 236 = .ok (.lload 9, 2) := by decide +kernel
theorem d_Pack_placeIn_238 : decode b_Pack_placeIn 238 = .ok (.lastore, 1) := by decide +kernel
theorem d_Pack_placeIn_239 : decode b_Pack_placeIn 239 = .ok (.return_, 1) := by decide +kernel
theorem d_Pack_foundFor_0 : decode b_Pack_foundFor 0 = .ok (.iload_n 1, 1) := by decide +kernel
theorem d_Pack_foundFor_1 : decode b_Pack_foundFor 1 = .ok (.ifCond .lt 21, 3) := by decide +kernel
theorem d_Pack_foundFor_4 : decode b_Pack_foundFor 4 = .ok (.iload_n 1, 1) := by decide +kernel
theorem d_Pack_foundFor_5 : decode b_Pack_foundFor 5 = .ok (.aload_n 0, 1) := by decide +kernel
theorem d_Pack_foundFor_6 : decode b_Pack_foundFor 6 = .ok (.getfield 9, 3) := by decide +kernel
theorem d_Pack_foundFor_9 : decode b_Pack_foundFor 9 = .ok (.arraylength, 1) := by decide +kernel
theorem d_Pack_foundFor_10 : decode b_Pack_foundFor 10 = .ok (.if_icmp .ge 12, 3) := by decide +kernel
theorem d_Pack_foundFor_13 : decode b_Pack_foundFor 13 = .ok (.aload_n 0, 1) := by decide +kernel
theorem d_Pack_foundFor_14 : decode b_Pack_foundFor 14 = .ok (.getfield 9, 3) := by decide +kernel
theorem d_Pack_foundFor_17 : decode b_Pack_foundFor 17 = .ok (.iload_n 1, 1) := by decide +kernel
theorem d_Pack_foundFor_18 : decode b_Pack_foundFor 18 = .ok (.iaload, 1) := by decide +kernel
theorem d_Pack_foundFor_19 : decode b_Pack_foundFor 19 = .ok (.goto 4, 3) := by decide +kernel
theorem d_Pack_foundFor_22 : decode b_Pack_foundFor 22 = .ok (.iconst (-1), 1) := by decide +kernel
theorem d_Pack_foundFor_23 : decode b_Pack_foundFor 23 = .ok (.ireturn, 1) := by decide +kernel
