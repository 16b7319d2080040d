theorem d_Set_init_0 : decode b_Set_init 0 = .ok (.aload_n 0, 1) := by decide +kernel
theorem d_Set_init_1 : decode b_Set_init 1 = .ok (.invokespecial 3, 3) := by decide +kernel
theorem d_Set_init_4 : decode b_Set_init 4 = .ok (.aload_n 0, 1) := by decide +kernel
theorem d_Set_init_5 : decode b_Set_init 5 = .ok (.bipush 20, 2) := by decide +kernel
theorem d_Set_init_7 : decode b_Set_init 7 = .ok (.newarray .int, 2) := by decide +kernel
theorem d_Set_init_9 : decode b_Set_init 9 = .ok (.putfield 11, 3) := by decide +kernel
theorem d_Set_init_12 : decode b_Set_init 12 = .ok (.aload_n 0, 1) := by decide +kernel
theorem d_Set_init_13 : decode b_Set_init 13 = .ok (.bipush 20, 2) := by decide +kernel
theorem d_Set_init_15 : decode b_Set_init 15 = .ok (.newarray .int, 2) := by decide +kernel
theorem d_Set_init_17 : decode b_Set_init 17 = .ok (.putfield 15, 3) := by decide +kernel
theorem d_Set_init_20 : decode b_Set_init 20 = .ok (.aload_n 0, 1) := by decide +kernel
theorem d_Set_init_21 : decode b_Set_init 21 = .ok (.bipush 100, 2) := by decide +kernel
theorem d_Set_init_23 : decode b_Set_init 23 = .ok (.newarray .char, 2) := by decide +kernel
theorem d_Set_init_25 : decode b_Set_init 25 = .ok (.putfield 18, 3) := by decide +kernel
theorem d_Set_init_28 : decode b_Set_init 28 = .ok (.aload_n 0, 1) := by decide +kernel
theorem d_Set_init_29 : decode b_Set_init 29 = .ok (.bipush 100, 2) := by decide +kernel
theorem d_Set_init_31 : decode b_Set_init 31 = .ok (.newarray .int, 2) := by decide +kernel
theorem d_Set_init_33 : decode b_Set_init 33 = .ok (.putfield 22, 3) := by decide +kernel
theorem d_Set_init_36 : decode b_Set_init 36 = .ok (.aload_n 0, 1) := by decide +kernel
theorem d_Set_init_37 : decode b_Set_init 37 = .ok (.bipush 100, 2) := by decide +kernel
theorem d_Set_init_39 : decode b_Set_init 39 = .ok (.newarray .int, 2) := by decide +kernel
theorem d_Set_init_41 : decode b_Set_init 41 = .ok (.putfield 25, 3) := by decide +kernel
theorem d_Set_init_44 : decode b_Set_init 44 = .ok (.return_, 1) := by decide +kernel
theorem d_Set_clear_0 : decode b_Set_clear 0 = .ok (.aload_n 0, 1) := by decide +kernel
theorem d_Set_clear_1 : decode b_Set_clear 1 = .ok (.iconst 0, 1) := by decide +kernel
theorem d_Set_clear_2 : decode b_Set_clear 2 = .ok (.putfield 28, 3) := by decide +kernel
theorem d_Set_clear_5 : decode b_Set_clear 5 = .ok (.aload_n 0, 1) := by decide +kernel
theorem d_Set_clear_6 : decode b_Set_clear 6 = .ok (.iconst 0, 1) := by decide +kernel
theorem d_Set_clear_7 : decode b_Set_clear 7 = .ok (.putfield 32, 3) := by decide +kernel
theorem d_Set_clear_10 : decode b_Set_clear 10 = .ok (.return_, 1) := by decide +kernel
theorem d_Set_isFull_0 : decode b_Set_isFull 0 = .ok (.aload_n 0, 1) := by decide +kernel
theorem d_Set_isFull_1 : decode b_Set_isFull 1 = .ok (.getfield 28, 3) := by decide +kernel
theorem d_Set_isFull_4 : decode b_Set_isFull 4 = .ok (.bipush 20, 2) := by decide +kernel
theorem d_Set_isFull_6 : decode b_Set_isFull 6 = .ok (.if_icmp .lt 7, 3) := by decide +kernel
theorem d_Set_isFull_9 : decode b_Set_isFull 9 = .ok (.iconst 1, 1) := by decide +kernel
theorem d_Set_isFull_10 : decode b_Set_isFull 10 = .ok (.goto 4, 3) := by decide +kernel
theorem d_Set_isFull_13 : decode b_Set_isFull 13 = .ok (.iconst 0, 1) := by decide +kernel
theorem d_Set_isFull_14 : decode b_Set_isFull 14 = .ok (.ireturn, 1) := by decide +kernel
theorem d_Set_addSentence_0 : decode b_Set_addSentence 0 = .ok (.aload_n 0, 1) := by decide +kernel
theorem d_Set_addSentence_1 : decode b_Set_addSentence 1 = .ok (.getfield 28, 3) := by decide +kernel
theorem d_Set_addSentence_4 : decode b_Set_addSentence 4 = .ok (.ifCond .lt 15, 3) := by decide +kernel
theorem d_Set_addSentence_7 : decode b_Set_addSentence 7 = .ok (.aload_n 0, 1) := by decide +kernel
theorem d_Set_addSentence_8 : decode b_Set_addSentence 8 = .ok (.getfield 28, 3) := by decide +kernel
theorem d_Set_addSentence_11 : decode b_Set_addSentence 11 = .ok (.aload_n 0, 1) := by decide +kernel
theorem d_Set_addSentence_12 : decode b_Set_addSentence 12 = .ok (.getfield 11, 3) := by decide +kernel
theorem d_Set_addSentence_15 : decode b_Set_addSentence 15 = .ok (.arraylength, 1) := by decide +kernel
theorem d_Set_addSentence_16 : decode b_Set_addSentence 16 = .ok (.if_icmp .lt 5, 3) := by decide +kernel
theorem d_Set_addSentence_19 : decode b_Set_addSentence 19 = .ok (.iconst 0, 1) := by decide +kernel
theorem d_Set_addSentence_20 : decode b_Set_addSentence 20 = .ok (.ireturn, 1) := by decide +kernel
theorem d_Set_addSentence_21 : decode b_Set_addSentence 21 = .ok (.aload_n 0, 1) := by decide +kernel
theorem d_Set_addSentence_22 : decode b_Set_addSentence 22 = .ok (.getfield 11, 3) := by decide +kernel
theorem d_Set_addSentence_25 : decode b_Set_addSentence 25 = .ok (.aload_n 0, 1) := by decide +kernel
theorem d_Set_addSentence_26 : decode b_Set_addSentence 26 = .ok (.getfield 28, 3) := by decide +kernel
theorem d_Set_addSentence_29 : decode b_Set_addSentence 29 = .ok (.iload_n 1, 1) := by decide +kernel
theorem d_Set_addSentence_30 : decode b_Set_addSentence 30 = .ok (.iastore, 1) := by decide +kernel
theorem d_Set_addSentence_31 : decode b_Set_addSentence 31 = .ok (.aload_n 0, 1) := by decide +kernel
theorem d_Set_addSentence_32 : decode b_Set_addSentence 32 = .ok (.getfield 15, 3) := by decide +kernel
theorem d_Set_addSentence_35 : decode b_Set_addSentence 35 = .ok (.aload_n 0, 1) := by decide +kernel
theorem d_Set_addSentence_36 : decode b_Set_addSentence 36 = .ok (.getfield 28, 3) := by decide +kernel
theorem d_Set_addSentence_39 : decode b_Set_addSentence 39 = .ok (.aload_n 0, 1) := by decide +kernel
theorem d_Set_addSentence_40 : decode b_Set_addSentence 40 = .ok (.getfield 32, 3) := by decide +kernel
theorem d_Set_addSentence_43 : decode b_Set_addSentence 43 = .ok (.iastore, 1) := by decide +kernel
theorem d_Set_addSentence_44 : decode b_Set_addSentence 44 = .ok (.aload_n 0, 1) := by decide +kernel
theorem d_Set_addSentence_45 : decode b_Set_addSentence 45 = .ok (.dup, 1) := by decide +kernel
theorem d_Set_addSentence_46 : decode b_Set_addSentence 46 = .ok (.getfield 28, 3) := by decide +kernel
theorem d_Set_addSentence_49 : decode b_Set_addSentence 49 = .ok (.iconst 1, 1) := by decide +kernel
theorem d_Set_addSentence_50 : decode b_Set_addSentence 50 = .ok (.iadd, 1) := by decide +kernel
theorem d_Set_addSentence_51 : decode b_Set_addSentence 51 = .ok (.putfield 28, 3) := by decide +kernel
theorem d_Set_addSentence_54 : decode b_Set_addSentence 54 = .ok (.iconst 1, 1) := by decide +kernel
theorem d_Set_addSentence_55 : decode b_Set_addSentence 55 = .ok (.ireturn, 1) := by decide +kernel
theorem d_Set_addClause_0 : decode b_Set_addClause 0 = .ok (.aload_n 0, 1) := by decide +kernel
theorem d_Set_addClause_1 : decode b_Set_addClause 1 = .ok (.getfield 28, 3) := by decide +kernel
theorem d_Set_addClause_4 : decode b_Set_addClause 4 = .ok (.iconst 1, 1) := by decide +kernel
theorem d_Set_addClause_5 : decode b_Set_addClause 5 = .ok (.if_icmp .lt 34, 3) := by decide +kernel
theorem d_Set_addClause_8 : decode b_Set_addClause 8 = .ok (.aload_n 0, 1) := by decide +kernel
theorem d_Set_addClause_9 : decode b_Set_addClause 9 = .ok (.getfield 28, 3) := by decide +kernel
theorem d_Set_addClause_12 : decode b_Set_addClause 12 = .ok (.aload_n 0, 1) := by decide +kernel
theorem d_Set_addClause_13 : decode b_Set_addClause 13 = .ok (.getfield 15, 3) := by decide +kernel
theorem d_Set_addClause_16 : decode b_Set_addClause 16 = .ok (.arraylength, 1) := by decide +kernel
theorem d_Set_addClause_17 : decode b_Set_addClause 17 = .ok (.if_icmp .gt 22, 3) := by decide +kernel
theorem d_Set_addClause_20 : decode b_Set_addClause 20 = .ok (.aload_n 0, 1) := by decide +kernel
theorem d_Set_addClause_21 : decode b_Set_addClause 21 = .ok (.getfield 32, 3) := by decide +kernel
theorem d_Set_addClause_24 : decode b_Set_addClause 24 = .ok (.ifCond .lt 15, 3) := by decide +kernel
theorem d_Set_addClause_27 : decode b_Set_addClause 27 = .ok (.aload_n 0, 1) := by decide +kernel
theorem d_Set_addClause_28 : decode b_Set_addClause 28 = .ok (.getfield 32, 3) := by decide +kernel
theorem d_Set_addClause_31 : decode b_Set_addClause 31 = .ok (.aload_n 0, 1) := by decide +kernel
theorem d_Set_addClause_32 : decode b_Set_addClause 32 = .ok (.getfield 18, 3) := by decide +kernel
theorem d_Set_addClause_35 : decode b_Set_addClause 35 = .ok (.arraylength, 1) := by decide +kernel
theorem d_Set_addClause_36 : decode b_Set_addClause 36 = .ok (.if_icmp .lt 5, 3) := by decide +kernel
theorem d_Set_addClause_39 : decode b_Set_addClause 39 = .ok (.iconst 0, 1) := by decide +kernel
theorem d_Set_addClause_40 : decode b_Set_addClause 40 = .ok (.ireturn, 1) := by decide +kernel
theorem d_Set_addClause_41 : decode b_Set_addClause 41 = .ok (.aload_n 0, 1) := by decide +kernel
theorem d_Set_addClause_42 : decode b_Set_addClause 42 = .ok (.getfield 18, 3) := by decide +kernel
theorem d_Set_addClause_45 : decode b_Set_addClause 45 = .ok (.aload_n 0, 1) := by decide +kernel
theorem d_Set_addClause_46 : decode b_Set_addClause 46 = .ok (.getfield 32, 3) := by decide +kernel
theorem d_Set_addClause_49 : decode b_Set_addClause 49 = .ok (.iload_n 1, 1) := by decide +kernel
theorem d_Set_addClause_50 : decode b_Set_addClause 50 = .ok (.castore, 1) := by decide +kernel
theorem d_Set_addClause_51 : decode b_Set_addClause 51 = .ok (.aload_n 0, 1) := by decide +kernel
theorem d_Set_addClause_52 : decode b_Set_addClause 52 = .ok (.getfield 22, 3) := by decide +kernel
theorem d_Set_addClause_55 : decode b_Set_addClause 55 = .ok (.aload_n 0, 1) := by decide +kernel
theorem d_Set_addClause_56 : decode b_Set_addClause 56 = .ok (.getfield 32, 3) := by decide +kernel
theorem d_Set_addClause_59 : decode b_Set_addClause 59 = .ok (.iload_n 2, 1) := by decide +kernel
theorem d_Set_addClause_60 : decode b_Set_addClause 60 = .ok (.iastore, 1) := by decide +kernel
theorem d_Set_addClause_61 : decode b_Set_addClause 61 = .ok (.aload_n 0, 1) := by decide +kernel
theorem d_Set_addClause_62 : decode b_Set_addClause 62 = .ok (.getfield 25, 3) := by decide +kernel
theorem d_Set_addClause_65 : decode b_Set_addClause 65 = .ok (.aload_n 0, 1) := by decide +kernel
theorem d_Set_addClause_66 : decode b_Set_addClause 66 = .ok (.getfield 32, 3) := by decide +kernel
theorem d_Set_addClause_69 : decode b_Set_addClause 69 = .ok (.iload_n 3, 1) := by decide +kernel
theorem d_Set_addClause_70 : decode b_Set_addClause 70 = .ok (.iastore, 1) := by decide +kernel
theorem d_Set_addClause_71 : decode b_Set_addClause 71 = .ok (.aload_n 0, 1) := by decide +kernel
theorem d_Set_addClause_72 : decode b_Set_addClause 72 = .ok (.dup, 1) := by decide +kernel
theorem d_Set_addClause_73 : decode b_Set_addClause 73 = .ok (.getfield 32, 3) := by decide +kernel
theorem d_Set_addClause_76 : decode b_Set_addClause 76 = .ok (.iconst 1, 1) := by decide +kernel
theorem d_Set_addClause_77 : decode b_Set_addClause 77 = .ok (.iadd, 1) := by decide +kernel
theorem d_Set_addClause_78 : decode b_Set_addClause 78 = .ok (.putfield 32, 3) := by decide +kernel
theorem d_Set_addClause_81 : decode b_Set_addClause 81 = .ok (.aload_n 0, 1) := by decide +kernel
theorem d_Set_addClause_82 : decode b_Set_addClause 82 = .ok (.getfield 15, 3) := by decide +kernel
theorem d_Set_addClause_85 : decode b_Set_addClause 85 = .ok (.aload_n 0, 1) := by decide +kernel
theorem d_Set_addClause_86 : decode b_Set_addClause 86 = .ok (.getfield 28, 3) := by decide +kernel
theorem d_Set_addClause_89 : decode b_Set_addClause 89 = .ok (.iconst 1, 1) := by decide +kernel
theorem d_Set_addClause_90 : decode b_Set_addClause 90 = .ok (.isub, 1) := by decide +kernel
theorem d_Set_addClause_91 : decode b_Set_addClause 91 = .ok (.aload_n 0, 1) := by decide +kernel
theorem d_Set_addClause_92 : decode b_Set_addClause 92 = .ok (.getfield 32, 3) := by decide +kernel
theorem d_Set_addClause_95 : decode b_Set_addClause 95 = .ok (.iastore, 1) := by decide +kernel
theorem d_Set_addClause_96 : decode b_Set_addClause 96 = .ok (.iconst 1, 1) := by decide +kernel
theorem d_Set_addClause_97 : decode b_Set_addClause 97 = .ok (.ireturn, 1) := by decide +kernel
theorem d_Set_firstThatHolds_0 : decode b_Set_firstThatHolds 0 = .ok (.iconst 0, 1) := by decide +kernel
theorem d_Set_firstThatHolds_1 : decode b_Set_firstThatHolds 1 = .ok (.istore_n 2, 1) := by decide +kernel
theorem d_Set_firstThatHolds_2 : decode b_Set_firstThatHolds 2 = .ok (.iconst 0, 1) := by decide +kernel
theorem d_Set_firstThatHolds_3 : decode b_Set_firstThatHolds 3 = .ok (.istore_n 3, 1) := by decide +kernel
theorem d_Set_firstThatHolds_4 : decode b_Set_firstThatHolds 4 = .ok (.iload_n 3, 1) := by decide +kernel
theorem d_Set_firstThatHolds_5 : decode b_Set_firstThatHolds 5 = .ok (.aload_n 0, 1) := by decide +kernel
theorem d_Set_firstThatHolds_6 : decode b_Set_firstThatHolds 6 = .ok (.getfield 28, 3) := by decide +kernel
theorem d_Set_firstThatHolds_9 : decode b_Set_firstThatHolds 9 = .ok (.if_icmp .ge 47, 3) := by decide +kernel
theorem d_Set_firstThatHolds_12 : decode b_Set_firstThatHolds 12 = .ok (.iload_n 3, 1) := by decide +kernel
theorem d_Set_firstThatHolds_13 : decode b_Set_firstThatHolds 13 = .ok (.aload_n 0, 1) := by decide +kernel
theorem d_Set_firstThatHolds_14 : decode b_Set_firstThatHolds 14 = .ok (.getfield 11, 3) := by decide +kernel
theorem d_Set_firstThatHolds_17 : decode b_Set_firstThatHolds 17 = .ok (.arraylength, 1) := by decide +kernel
theorem d_Set_firstThatHolds_18 : decode b_Set_firstThatHolds 18 = .ok (.if_icmp .ge 38, 3) := by decide +kernel
theorem d_Set_firstThatHolds_21 : decode b_Set_firstThatHolds 21 = .ok (.aload_n 0, 1) := by decide +kernel
theorem d_Set_firstThatHolds_22 : decode b_Set_firstThatHolds 22 = .ok (.getfield 15, 3) := by decide +kernel
theorem d_Set_firstThatHolds_25 : decode b_Set_firstThatHolds 25 = .ok (.iload_n 3, 1) := by decide +kernel
theorem d_Set_firstThatHolds_26 : decode b_Set_firstThatHolds 26 = .ok (.iaload, 1) := by decide +kernel
theorem d_Set_firstThatHolds_27 : decode b_Set_firstThatHolds 27 = .ok (.istore 4, 2) := by decide +kernel
theorem d_Set_firstThatHolds_29 : decode b_Set_firstThatHolds 29 = .ok (.aload_n 0, 1) := by decide +kernel
theorem d_Set_firstThatHolds_30 : decode b_Set_firstThatHolds 30 = .ok (.aload_n 1, 1) := by decide +kernel
theorem d_Set_firstThatHolds_31 : decode b_Set_firstThatHolds 31 = .ok (.iload_n 2, 1) := by decide +kernel
theorem d_Set_firstThatHolds_32 : decode b_Set_firstThatHolds 32 = .ok (.iload 4, 2) := by decide +kernel
theorem d_Set_firstThatHolds_34 : decode b_Set_firstThatHolds 34 = .ok (.invokevirtual 35, 3) := by decide +kernel
theorem d_Set_firstThatHolds_37 : decode b_Set_firstThatHolds 37 = .ok (.ifCond .eq 10, 3) := by decide +kernel
theorem d_Set_firstThatHolds_40 : decode b_Set_firstThatHolds 40 = .ok (.aload_n 0, 1) := by decide +kernel
theorem d_Set_firstThatHolds_41 : decode b_Set_firstThatHolds 41 = .ok (.getfield 11, 3) := by decide +kernel
theorem d_Set_firstThatHolds_44 : decode b_Set_firstThatHolds 44 = .ok (.iload_n 3, 1) := by decide +kernel
theorem d_Set_firstThatHolds_45 : decode b_Set_firstThatHolds 45 = .ok (.iaload, 1) := by decide +kernel
theorem d_Set_firstThatHolds_46 : decode b_Set_firstThatHolds 46 = .ok (.ireturn, 1) := by decide +kernel
theorem d_Set_firstThatHolds_47 : decode b_Set_firstThatHolds 47 = .ok (.iload 4, 2) := by decide +kernel
theorem d_Set_firstThatHolds_49 : decode b_Set_firstThatHolds 49 = .ok (.istore_n 2, 1) := by decide +kernel
theorem d_Set_firstThatHolds_50 : decode b_Set_firstThatHolds 50 = .ok (.iinc 3 1, 3) := by decide +kernel
theorem d_Set_firstThatHolds_53 : decode b_Set_firstThatHolds 53 = .ok (.goto (-49), 3) := by decide +kernel
theorem d_Set_firstThatHolds_56 : decode b_Set_firstThatHolds 56 = .ok (.bipush 99, 2) := by decide +kernel
theorem d_Set_firstThatHolds_58 : decode b_Set_firstThatHolds 58 = .ok (.ireturn, 1) := by decide +kernel
theorem d_Set_allHold_0 : decode b_Set_allHold 0 = .ok (.iload_n 2, 1) := by decide +kernel
theorem d_Set_allHold_1 : decode b_Set_allHold 1 = .ok (.istore 4, 2) := by decide +kernel
theorem d_Set_allHold_3 : decode b_Set_allHold 3 = .ok (.iload 4, 2) := by decide +kernel
theorem d_Set_allHold_5 : decode b_Set_allHold 5 = .ok (.iload_n 3, 1) := by decide +kernel
theorem d_Set_allHold_6 : decode b_Set_allHold 6 = .ok (.if_icmp .ge 21, 3) := by decide +kernel
theorem d_Set_allHold_9 : decode b_Set_allHold 9 = .ok (.aload_n 0, 1) := by decide +kernel
theorem d_Set_allHold_10 : decode b_Set_allHold 10 = .ok (.aload_n 1, 1) := by decide +kernel
theorem d_Set_allHold_11 : decode b_Set_allHold 11 = .ok (.iload 4, 2) := by decide +kernel
theorem d_Set_allHold_13 : decode b_Set_allHold 13 = .ok (.invokevirtual 39, 3) := by decide +kernel
theorem d_Set_allHold_16 : decode b_Set_allHold 16 = .ok (.ifCond .ne 5, 3) := by decide +kernel
theorem d_Set_allHold_19 : decode b_Set_allHold 19 = .ok (.iconst 0, 1) := by decide +kernel
theorem d_Set_allHold_20 : decode b_Set_allHold 20 = .ok (.ireturn, 1) := by decide +kernel
theorem d_Set_allHold_21 : decode b_Set_allHold 21 = .ok (.iinc 4 1, 3) := by decide +kernel
theorem d_Set_allHold_24 : decode b_Set_allHold 24 = .ok (.goto (-21), 3) := by decide +kernel
theorem d_Set_allHold_27 : decode b_Set_allHold 27 = .ok (.iconst 1, 1) := by decide +kernel
theorem d_Set_allHold_28 : decode b_Set_allHold 28 = .ok (.ireturn, 1) := by decide +kernel
theorem d_Set_holds_0 : decode b_Set_holds 0 = .ok (.iload_n 2, 1) := by decide +kernel
theorem d_Set_holds_1 : decode b_Set_holds 1 = .ok (.ifCond .lt 12, 3) := by decide +kernel
theorem d_Set_holds_4 : decode b_Set_holds 4 = .ok (.iload_n 2, 1) := by decide +kernel
theorem d_Set_holds_5 : decode b_Set_holds 5 = .ok (.aload_n 0, 1) := by decide +kernel
theorem d_Set_holds_6 : decode b_Set_holds 6 = .ok (.getfield 18, 3) := by decide +kernel
theorem d_Set_holds_9 : decode b_Set_holds 9 = .ok (.arraylength, 1) := by decide +kernel
theorem d_Set_holds_10 : decode b_Set_holds 10 = .ok (.if_icmp .lt 5, 3) := by decide +kernel
theorem d_Set_holds_13 : decode b_Set_holds 13 = .ok (.iconst 0, 1) := by decide +kernel
theorem d_Set_holds_14 : decode b_Set_holds 14 = .ok (.ireturn, 1) := by decide +kernel
theorem d_Set_holds_15 : decode b_Set_holds 15 = .ok (.aload_n 0, 1) := by decide +kernel
theorem d_Set_holds_16 : decode b_Set_holds 16 = .ok (.getfield 18, 3) := by decide +kernel
theorem d_Set_holds_19 : decode b_Set_holds 19 = .ok (.iload_n 2, 1) := by decide +kernel
theorem d_Set_holds_20 : decode b_Set_holds 20 = .ok (.caload, 1) := by decide +kernel
theorem d_Set_holds_21 : decode b_Set_holds 21 = .ok (.bipush 113, 2) := by decide +kernel
theorem d_Set_holds_23 : decode b_Set_holds 23 = .ok (.if_icmp .ne 25, 3) := by decide +kernel
theorem d_Set_holds_26 : decode b_Set_holds 26 = .ok (.aload_n 1, 1) := by decide +kernel
theorem d_Set_holds_27 : decode b_Set_holds 27 = .ok (.invokevirtual 43, 3) := by decide +kernel
theorem d_Set_holds_30 : decode b_Set_holds 30 = .ok (.aload_n 0, 1) := by decide +kernel
theorem d_Set_holds_31 : decode b_Set_holds 31 = .ok (.getfield 22, 3) := by decide +kernel
theorem d_Set_holds_34 : decode b_Set_holds 34 = .ok (.iload_n 2, 1) := by decide +kernel
theorem d_Set_holds_35 : decode b_Set_holds 35 = .ok (.iaload, 1) := by decide +kernel
theorem d_Set_holds_36 : decode b_Set_holds 36 = .ok (.i2l, 1) := by decide +kernel
theorem d_Set_holds_37 : decode b_Set_holds 37 = .ok (.aload_n 0, 1) := by decide +kernel
theorem d_Set_holds_38 : decode b_Set_holds 38 = .ok (.getfield 25, 3) := by decide +kernel
theorem d_Set_holds_41 : decode b_Set_holds 41 = .ok (.iload_n 2, 1) := by decide +kernel
theorem d_Set_holds_42 : decode b_Set_holds 42 = .ok (.iaload, 1) := by decide +kernel
theorem d_Set_holds_43 : decode b_Set_holds 43 = .ok (.i2l, 1) := by decide +kernel
theorem d_Set_holds_44 : decode b_Set_holds 44 = .ok (.invokestatic 49, 3) := by decide +kernel
theorem d_Set_holds_47 : decode b_Set_holds 47 = .ok (.ireturn, 1) := by decide +kernel
theorem d_Set_holds_48 : decode b_Set_holds 48 = .ok (.aload_n 0, 1) := by decide +kernel
theorem d_Set_holds_49 : decode b_Set_holds 49 = .ok (.getfield 18, 3) := by decide +kernel
theorem d_Set_holds_52 : decode b_Set_holds 52 = .ok (.iload_n 2, 1) := by decide +kernel
theorem d_Set_holds_53 : decode b_Set_holds 53 = .ok (.caload, 1) := by decide +kernel
theorem d_Set_holds_54 : decode b_Set_holds 54 = .ok (.bipush 118, 2) := by decide +kernel
theorem d_Set_holds_56 : decode b_Set_holds 56 = .ok (.if_icmp .ne 26, 3) := by decide +kernel
theorem d_Set_holds_59 : decode b_Set_holds 59 = .ok (.aload_n 1, 1) := by decide +kernel
theorem d_Set_holds_60 : decode b_Set_holds 60 = .ok (.getfield 53, 3) := by decide +kernel
theorem d_Set_holds_63 : decode b_Set_holds 63 = .ok (.i2l, 1) := by decide +kernel
theorem d_Set_holds_64 : decode b_Set_holds 64 = .ok (.aload_n 0, 1) := by decide +kernel
theorem d_Set_holds_65 : decode b_Set_holds 65 = .ok (.getfield 22, 3) := by decide +kernel
theorem d_Set_holds_68 : decode b_Set_holds 68 = .ok (.iload_n 2, 1) := by decide +kernel
theorem d_Set_holds_69 : decode b_Set_holds 69 = .ok (.iaload, 1) := by decide +kernel
theorem d_Set_holds_70 : decode b_Set_holds 70 = .ok (.i2l, 1) := by decide +kernel
theorem d_Set_holds_71 : decode b_Set_holds 71 = .ok (.aload_n 0, 1) := by decide +kernel
theorem d_Set_holds_72 : decode b_Set_holds 72 = .ok (.getfield 25, 3) := by decide +kernel
theorem d_Set_holds_75 : decode b_Set_holds 75 = .ok (.iload_n 2, 1) := by decide +kernel
theorem d_Set_holds_76 : decode b_Set_holds 76 = .ok (.iaload, 1) := by decide +kernel
theorem d_Set_holds_77 : decode b_Set_holds 77 = .ok (.i2l, 1) := by decide +kernel
theorem d_Set_holds_78 : decode b_Set_holds 78 = .ok (.invokestatic 49, 3) := by decide +kernel
theorem d_Set_holds_81 : decode b_Set_holds 81 = .ok (.ireturn, 1) := by decide +kernel
theorem d_Set_holds_82 : decode b_Set_holds 82 = .ok (.aload_n 1, 1) := by decide +kernel
theorem d_Set_holds_83 : decode b_Set_holds 83 = .ok (.getfield 56, 3) := by decide +kernel
theorem d_Set_holds_86 : decode b_Set_holds 86 = .ok (.ifCond .le 37, 3) := by decide +kernel
theorem d_Set_holds_89 : decode b_Set_holds 89 = .ok (.aload_n 1, 1) := by decide +kernel
theorem d_Set_holds_90 : decode b_Set_holds 90 = .ok (.getfield 59, 3) := by decide +kernel
theorem d_Set_holds_93 : decode b_Set_holds 93 = .ok (.aload_n 1, 1) := by decide +kernel
theorem d_Set_holds_94 : decode b_Set_holds 94 = .ok (.getfield 56, 3) := by decide +kernel
theorem d_Set_holds_97 : decode b_Set_holds 97 = .ok (.idiv, 1) := by decide +kernel
theorem d_Set_holds_98 : decode b_Set_holds 98 = .ok (.i2l, 1) := by decide +kernel
theorem d_Set_holds_99 : decode b_Set_holds 99 = .ok (.aload_n 0, 1) := by decide +kernel
theorem d_Set_holds_100 : decode b_Set_holds 100 = .ok (.getfield 22, 3) := by decide +kernel
theorem d_Set_holds_103 : decode b_Set_holds 103 = .ok (.iload_n 2, 1) := by decide +kernel
theorem d_Set_holds_104 : decode b_Set_holds 104 = .ok (.iaload, 1) := by decide +kernel
theorem d_Set_holds_105 : decode b_Set_holds 105 = .ok (.i2l, 1) := by decide +kernel
theorem d_Set_holds_106 : decode b_Set_holds 106 = .ok (.aload_n 0, 1) := by decide +kernel
theorem d_Set_holds_107 : decode b_Set_holds 107 = .ok (.getfield 25, 3) := by decide +kernel
theorem d_Set_holds_110 : decode b_Set_holds 110 = .ok (.iload_n 2, 1) := by decide +kernel
theorem d_Set_holds_111 : decode b_Set_holds 111 = .ok (.iaload, 1) := by decide +kernel
theorem d_Set_holds_112 : decode b_Set_holds 112 = .ok (.i2l, 1) := by decide +kernel
theorem d_Set_holds_113 : decode b_Set_holds 113 = .ok (.invokestatic 49, 3) := by decide +kernel
theorem d_Set_holds_116 : decode b_Set_holds 116 = .ok (.ifCond .eq 7, 3) := by decide +kernel
theorem d_Set_holds_119 : decode b_Set_holds 119 = .ok (.iconst 1, 1) := by decide +kernel
theorem d_Set_holds_120 : decode b_Set_holds 120 = .ok (.goto 4, 3) := by decide +kernel
theorem d_Set_holds_123 : decode b_Set_holds 123 = .ok (.iconst 0, 1) := by decide +kernel
theorem d_Set_holds_124 : decode b_Set_holds 124 = .ok (.ireturn, 1) := by decide +kernel
