theorem d_Ct_init_0 : decode b_Ct_init 0 = .ok (.aload_n 0, 1) := by decide +kernel
theorem d_Ct_init_1 : decode b_Ct_init 1 = .ok (.invokespecial 1, 3) := by decide +kernel
theorem d_Ct_init_4 : decode b_Ct_init 4 = .ok (.aload_n 0, 1) := by decide +kernel
theorem d_Ct_init_5 : decode b_Ct_init 5 = .ok (.bipush 8, 2) := by decide +kernel
theorem d_Ct_init_7 : decode b_Ct_init 7 = .ok (.anewarray 9, 3) := by decide +kernel
theorem d_Ct_init_10 : decode b_Ct_init 10 = .ok (.putfield 11, 3) := by decide +kernel
theorem d_Ct_init_13 : decode b_Ct_init 13 = .ok (.aload_n 0, 1) := by decide +kernel
theorem d_Ct_init_14 : decode b_Ct_init 14 = .ok (.iconst 0, 1) := by decide +kernel
theorem d_Ct_init_15 : decode b_Ct_init 15 = .ok (.putfield 15, 3) := by decide +kernel
theorem d_Ct_init_18 : decode b_Ct_init 18 = .ok (.aload_n 0, 1) := by decide +kernel
theorem d_Ct_init_19 : decode b_Ct_init 19 = .ok (.iconst 0, 1) := by decide +kernel
theorem d_Ct_init_20 : decode b_Ct_init 20 = .ok (.putfield 19, 3) := by decide +kernel
theorem d_Ct_init_23 : decode b_Ct_init 23 = .ok (.aload_n 0, 1) := by decide +kernel
theorem d_Ct_init_24 : decode b_Ct_init 24 = .ok (.ldc 22, 2) := by decide +kernel
theorem d_Ct_init_26 : decode b_Ct_init 26 = .ok (.putfield 23, 3) := by decide +kernel
theorem d_Ct_init_29 : decode b_Ct_init 29 = .ok (.aload_n 0, 1) := by decide +kernel
theorem d_Ct_init_30 : decode b_Ct_init 30 = .ok (.new 26, 3) := by decide +kernel
theorem d_Ct_init_33 : decode b_Ct_init 33 = .ok (.dup, 1) := by decide +kernel
theorem d_Ct_init_34 : decode b_Ct_init 34 = .ok (.invokespecial 28, 3) := by decide +kernel
theorem d_Ct_init_37 : decode b_Ct_init 37 = .ok (.putfield 29, 3) := by decide +kernel
theorem d_Ct_init_40 : decode b_Ct_init 40 = .ok (.aload_n 0, 1) := by decide +kernel
theorem d_Ct_init_41 : decode b_Ct_init 41 = .ok (.new 33, 3) := by decide +kernel
theorem d_Ct_init_44 : decode b_Ct_init 44 = .ok (.dup, 1) := by decide +kernel
theorem d_Ct_init_45 : decode b_Ct_init 45 = .ok (.invokespecial 35, 3) := by decide +kernel
theorem d_Ct_init_48 : decode b_Ct_init 48 = .ok (.putfield 36, 3) := by decide +kernel
theorem d_Ct_init_51 : decode b_Ct_init 51 = .ok (.aload_n 0, 1) := by decide +kernel
theorem d_Ct_init_52 : decode b_Ct_init 52 = .ok (.new 33, 3) := by decide +kernel
theorem d_Ct_init_55 : decode b_Ct_init 55 = .ok (.dup, 1) := by decide +kernel
theorem d_Ct_init_56 : decode b_Ct_init 56 = .ok (.invokespecial 35, 3) := by decide +kernel
theorem d_Ct_init_59 : decode b_Ct_init 59 = .ok (.putfield 40, 3) := by decide +kernel
theorem d_Ct_init_62 : decode b_Ct_init 62 = .ok (.aload_n 0, 1) := by decide +kernel
theorem d_Ct_init_63 : decode b_Ct_init 63 = .ok (.new 43, 3) := by decide +kernel
theorem d_Ct_init_66 : decode b_Ct_init 66 = .ok (.dup, 1) := by decide +kernel
theorem d_Ct_init_67 : decode b_Ct_init 67 = .ok (.invokespecial 45, 3) := by decide +kernel
theorem d_Ct_init_70 : decode b_Ct_init 70 = .ok (.putfield 46, 3) := by decide +kernel
theorem d_Ct_init_73 : decode b_Ct_init 73 = .ok (.aload_n 0, 1) := by decide +kernel
theorem d_Ct_init_74 : decode b_Ct_init 74 = .ok (.new 50, 3) := by decide +kernel
theorem d_Ct_init_77 : decode b_Ct_init 77 = .ok (.dup, 1) := by decide +kernel
theorem d_Ct_init_78 : decode b_Ct_init 78 = .ok (.invokespecial 52, 3) := by decide +kernel
theorem d_Ct_init_81 : decode b_Ct_init 81 = .ok (.putfield 53, 3) := by decide +kernel
theorem d_Ct_init_84 : decode b_Ct_init 84 = .ok (.aload_n 0, 1) := by decide +kernel
theorem d_Ct_init_85 : decode b_Ct_init 85 = .ok (.new 57, 3) := by decide +kernel
theorem d_Ct_init_88 : decode b_Ct_init 88 = .ok (.dup, 1) := by decide +kernel
theorem d_Ct_init_89 : decode b_Ct_init 89 = .ok (.invokespecial 59, 3) := by decide +kernel
theorem d_Ct_init_92 : decode b_Ct_init 92 = .ok (.putfield 60, 3) := by decide +kernel
theorem d_Ct_init_95 : decode b_Ct_init 95 = .ok (.return_, 1) := by decide +kernel
theorem d_Ct_cell_0 : decode b_Ct_cell 0 = .ok (.aload_n 0, 1) := by decide +kernel
theorem d_Ct_cell_1 : decode b_Ct_cell 1 = .ok (.getfield 15, 3) := by decide +kernel
theorem d_Ct_cell_4 : decode b_Ct_cell 4 = .ok (.ifCond .lt 15, 3) := by decide +kernel
theorem d_Ct_cell_7 : decode b_Ct_cell 7 = .ok (.aload_n 0, 1) := by decide +kernel
theorem d_Ct_cell_8 : decode b_Ct_cell 8 = .ok (.getfield 15, 3) := by decide +kernel
theorem d_Ct_cell_11 : decode b_Ct_cell 11 = .ok (.aload_n 0, 1) := by decide +kernel
theorem d_Ct_cell_12 : decode b_Ct_cell 12 = .ok (.getfield 11, 3) := by decide +kernel
theorem d_Ct_cell_15 : decode b_Ct_cell 15 = .ok (.arraylength, 1) := by decide +kernel
theorem d_Ct_cell_16 : decode b_Ct_cell 16 = .ok (.if_icmp .lt 5, 3) := by decide +kernel
theorem d_Ct_cell_19 : decode b_Ct_cell 19 = .ok (.iconst (-1), 1) := by decide +kernel
theorem d_Ct_cell_20 : decode b_Ct_cell 20 = .ok (.ireturn, 1) := by decide +kernel
theorem d_Ct_cell_21 : decode b_Ct_cell 21 = .ok (.aload_n 0, 1) := by decide +kernel
theorem d_Ct_cell_22 : decode b_Ct_cell 22 = .ok (.getfield 11, 3) := by decide +kernel
theorem d_Ct_cell_25 : decode b_Ct_cell 25 = .ok (.aload_n 0, 1) := by decide +kernel
theorem d_Ct_cell_26 : decode b_Ct_cell 26 = .ok (.getfield 15, 3) := by decide +kernel
theorem d_Ct_cell_29 : decode b_Ct_cell 29 = .ok (.new 9, 3) := by decide +kernel
theorem d_Ct_cell_32 : decode b_Ct_cell 32 = .ok (.dup, 1) := by decide +kernel
theorem d_Ct_cell_33 : decode b_Ct_cell 33 = .ok (.invokespecial 64, 3) := by decide +kernel
theorem d_Ct_cell_36 : decode b_Ct_cell 36 = .ok (.aastore, 1) := by decide +kernel
theorem d_Ct_cell_37 : decode b_Ct_cell 37 = .ok (.aload_n 0, 1) := by decide +kernel
theorem d_Ct_cell_38 : decode b_Ct_cell 38 = .ok (.dup, 1) := by decide +kernel
theorem d_Ct_cell_39 : decode b_Ct_cell 39 = .ok (.getfield 15, 3) := by decide +kernel
theorem d_Ct_cell_42 : decode b_Ct_cell 42 = .ok (.iconst 1, 1) := by decide +kernel
theorem d_Ct_cell_43 : decode b_Ct_cell 43 = .ok (.iadd, 1) := by decide +kernel
theorem d_Ct_cell_44 : decode b_Ct_cell 44 = .ok (.putfield 15, 3) := by decide +kernel
theorem d_Ct_cell_47 : decode b_Ct_cell 47 = .ok (.aload_n 0, 1) := by decide +kernel
theorem d_Ct_cell_48 : decode b_Ct_cell 48 = .ok (.getfield 15, 3) := by decide +kernel
theorem d_Ct_cell_51 : decode b_Ct_cell 51 = .ok (.iconst 1, 1) := by decide +kernel
theorem d_Ct_cell_52 : decode b_Ct_cell 52 = .ok (.isub, 1) := by decide +kernel
theorem d_Ct_cell_53 : decode b_Ct_cell 53 = .ok (.ireturn, 1) := by decide +kernel
theorem d_Ct_span_0 : decode b_Ct_span 0 = .ok (.iload_n 1, 1) := by decide +kernel
theorem d_Ct_span_1 : decode b_Ct_span 1 = .ok (.ifCond .lt 14, 3) := by decide +kernel
theorem d_Ct_span_4 : decode b_Ct_span 4 = .ok (.iload_n 2, 1) := by decide +kernel
theorem d_Ct_span_5 : decode b_Ct_span 5 = .ok (.ldc 22, 2) := by decide +kernel
theorem d_Ct_span_7 : decode b_Ct_span 7 = .ok (.if_icmp .gt 8, 3) := by decide +kernel
theorem d_Ct_span_10 : decode b_Ct_span 10 = .ok (.iload_n 1, 1) := by decide +kernel
theorem d_Ct_span_11 : decode b_Ct_span 11 = .ok (.iload_n 2, 1) := by decide +kernel
theorem d_Ct_span_12 : decode b_Ct_span 12 = .ok (.if_icmp .le 5, 3) := by decide +kernel
theorem d_Ct_span_15 : decode b_Ct_span 15 = .ok (.iconst 0, 1) := by decide +kernel
theorem d_Ct_span_16 : decode b_Ct_span 16 = .ok (.ireturn, 1) := by decide +kernel
theorem d_Ct_span_17 : decode b_Ct_span 17 = .ok (.aload_n 0, 1) := by decide +kernel
theorem d_Ct_span_18 : decode b_Ct_span 18 = .ok (.iload_n 1, 1) := by decide +kernel
theorem d_Ct_span_19 : decode b_Ct_span 19 = .ok (.putfield 19, 3) := by decide +kernel
theorem d_Ct_span_22 : decode b_Ct_span 22 = .ok (.aload_n 0, 1) := by decide +kernel
theorem d_Ct_span_23 : decode b_Ct_span 23 = .ok (.iload_n 2, 1) := by decide +kernel
theorem d_Ct_span_24 : decode b_Ct_span 24 = .ok (.putfield 23, 3) := by decide +kernel
theorem d_Ct_span_27 : decode b_Ct_span 27 = .ok (.iconst 1, 1) := by decide +kernel
theorem d_Ct_span_28 : decode b_Ct_span 28 = .ok (.ireturn, 1) := by decide +kernel
theorem d_Ct_warm_0 : decode b_Ct_warm 0 = .ok (.aload_n 0, 1) := by decide +kernel
theorem d_Ct_warm_1 : decode b_Ct_warm 1 = .ok (.iload_n 1, 1) := by decide +kernel
theorem d_Ct_warm_2 : decode b_Ct_warm 2 = .ok (.invokevirtual 65, 3) := by decide +kernel
theorem d_Ct_warm_5 : decode b_Ct_warm 5 = .ok (.astore_n 3, 1) := by decide +kernel
theorem d_Ct_warm_6 : decode b_Ct_warm 6 = .ok (.aload_n 3, 1) := by decide +kernel
theorem d_Ct_warm_7 : decode b_Ct_warm 7 = .ok (.ifnull 15, 3) := by decide +kernel
theorem d_Ct_warm_10 : decode b_Ct_warm 10 = .ok (.iload_n 2, 1) := by decide +kernel
theorem d_Ct_warm_11 : decode b_Ct_warm 11 = .ok (.i2l, 1) := by decide +kernel
theorem d_Ct_warm_12 : decode b_Ct_warm 12 = .ok (.lconst 0, 1) := by decide +kernel
theorem d_Ct_warm_13 : decode b_Ct_warm 13 = .ok (.ldc2_w 69, 3) := by decide +kernel
theorem d_Ct_warm_16 : decode b_Ct_warm 16 = .ok (.invokestatic 71, 3) := by decide +kernel
theorem d_Ct_warm_19 : decode b_Ct_warm 19 = .ok (.ifCond .ne 5, 3) := by decide +kernel
theorem d_Ct_warm_22 : decode b_Ct_warm 22 = .ok (.iconst 0, 1) := by decide +kernel
theorem d_Ct_warm_23 : decode b_Ct_warm 23 = .ok (.ireturn, 1) := by decide +kernel
theorem d_Ct_warm_24 : decode b_Ct_warm 24 = .ok (.aload_n 3, 1) := by decide +kernel
theorem d_Ct_warm_25 : decode b_Ct_warm 25 = .ok (.iload_n 2, 1) := by decide +kernel
theorem d_Ct_warm_26 : decode b_Ct_warm 26 = .ok (.putfield 75, 3) := by decide +kernel
theorem d_Ct_warm_29 : decode b_Ct_warm 29 = .ok (.aload_n 0, 1) := by decide +kernel
theorem d_Ct_warm_30 : decode b_Ct_warm 30 = .ok (.aload_n 3, 1) := by decide +kernel
theorem d_Ct_warm_31 : decode b_Ct_warm 31 = .ok (.invokevirtual 78, 3) := by decide +kernel
theorem d_Ct_warm_34 : decode b_Ct_warm 34 = .ok (.ireturn, 1) := by decide +kernel
theorem d_Ct_cellOf_0 : decode b_Ct_cellOf 0 = .ok (.iload_n 1, 1) := by decide +kernel
theorem d_Ct_cellOf_1 : decode b_Ct_cellOf 1 = .ok (.ifCond .lt 20, 3) := by decide +kernel
theorem d_Ct_cellOf_4 : decode b_Ct_cellOf 4 = .ok (.iload_n 1, 1) := by decide +kernel
theorem d_Ct_cellOf_5 : decode b_Ct_cellOf 5 = .ok (.aload_n 0, 1) := by decide +kernel
theorem d_Ct_cellOf_6 : decode b_Ct_cellOf 6 = .ok (.getfield 15, 3) := by decide +kernel
theorem d_Ct_cellOf_9 : decode b_Ct_cellOf 9 = .ok (.if_icmp .ge 12, 3) := by decide +kernel
theorem d_Ct_cellOf_12 : decode b_Ct_cellOf 12 = .ok (.iload_n 1, 1) := by decide +kernel
theorem d_Ct_cellOf_13 : decode b_Ct_cellOf 13 = .ok (.aload_n 0, 1) := by decide +kernel
theorem d_Ct_cellOf_14 : decode b_Ct_cellOf 14 = .ok (.getfield 11, 3) := by decide +kernel
theorem d_Ct_cellOf_17 : decode b_Ct_cellOf 17 = .ok (.arraylength, 1) := by decide +kernel
theorem d_Ct_cellOf_18 : decode b_Ct_cellOf 18 = .ok (.if_icmp .lt 5, 3) := by decide +kernel
theorem d_Ct_cellOf_21 : decode b_Ct_cellOf 21 = .ok (.aconst_null, 1) := by decide +kernel
theorem d_Ct_cellOf_22 : decode b_Ct_cellOf 22 = .ok (.areturn, 1) := by decide +kernel
theorem d_Ct_cellOf_23 : decode b_Ct_cellOf 23 = .ok (.aload_n 0, 1) := by decide +kernel
theorem d_Ct_cellOf_24 : decode b_Ct_cellOf 24 = .ok (.getfield 11, 3) := by decide +kernel
theorem d_Ct_cellOf_27 : decode b_Ct_cellOf 27 = .ok (.iload_n 1, 1) := by decide +kernel
theorem d_Ct_cellOf_28 : decode b_Ct_cellOf 28 = .ok (.aaload, 1) := by decide +kernel
theorem d_Ct_cellOf_29 : decode b_Ct_cellOf 29 = .ok (.areturn, 1) := by decide +kernel
theorem d_Ct_isWithin_0 : decode b_Ct_isWithin 0 = .ok (.lload_n 0, 1) := by decide +kernel
theorem d_Ct_isWithin_1 : decode b_Ct_isWithin 1 = .ok (.lload_n 2, 1) := by decide +kernel
theorem d_Ct_isWithin_2 : decode b_Ct_isWithin 2 = .ok (.lcmp, 1) := by decide +kernel
theorem d_Ct_isWithin_3 : decode b_Ct_isWithin 3 = .ok (.ifCond .lt 14, 3) := by decide +kernel
theorem d_Ct_isWithin_6 : decode b_Ct_isWithin 6 = .ok (.lload_n 0, 1) := by decide +kernel
theorem d_Ct_isWithin_7 : decode b_Ct_isWithin 7 = .ok (.lload 4, 2) := by decide +kernel
theorem d_Ct_isWithin_9 : decode b_Ct_isWithin 9 = .ok (.lcmp, 1) := by decide +kernel
theorem d_Ct_isWithin_10 : decode b_Ct_isWithin 10 = .ok (.ifCond .gt 7, 3) := by decide +kernel
theorem d_Ct_isWithin_13 : decode b_Ct_isWithin 13 = .ok (.iconst 1, 1) := by decide +kernel
theorem d_Ct_isWithin_14 : decode b_Ct_isWithin 14 = .ok (.goto 4, 3) := by decide +kernel
theorem d_Ct_isWithin_17 : decode b_Ct_isWithin 17 = .ok (.iconst 0, 1) := by decide +kernel
theorem d_Ct_isWithin_18 : decode b_Ct_isWithin 18 = .ok (.ireturn, 1) := by decide +kernel
theorem d_Ct_isInSpan_0 : decode b_Ct_isInSpan 0 = .ok (.aload_n 1, 1) := by decide +kernel
theorem d_Ct_isInSpan_1 : decode b_Ct_isInSpan 1 = .ok (.getfield 75, 3) := by decide +kernel
theorem d_Ct_isInSpan_4 : decode b_Ct_isInSpan 4 = .ok (.i2l, 1) := by decide +kernel
theorem d_Ct_isInSpan_5 : decode b_Ct_isInSpan 5 = .ok (.aload_n 0, 1) := by decide +kernel
theorem d_Ct_isInSpan_6 : decode b_Ct_isInSpan 6 = .ok (.getfield 19, 3) := by decide +kernel
theorem d_Ct_isInSpan_9 : decode b_Ct_isInSpan 9 = .ok (.i2l, 1) := by decide +kernel
theorem d_Ct_isInSpan_10 : decode b_Ct_isInSpan 10 = .ok (.aload_n 0, 1) := by decide +kernel
theorem d_Ct_isInSpan_11 : decode b_Ct_isInSpan 11 = .ok (.getfield 23, 3) := by decide +kernel
theorem d_Ct_isInSpan_14 : decode b_Ct_isInSpan 14 = .ok (.i2l, 1) := by decide +kernel
theorem d_Ct_isInSpan_15 : decode b_Ct_isInSpan 15 = .ok (.invokestatic 71, 3) := by decide +kernel
theorem d_Ct_isInSpan_18 : decode b_Ct_isInSpan 18 = .ok (.ireturn, 1) := by decide +kernel
theorem d_Ct_step_0 : decode b_Ct_step 0 = .ok (.aload_n 0, 1) := by decide +kernel
theorem d_Ct_step_1 : decode b_Ct_step 1 = .ok (.iload_n 1, 1) := by decide +kernel
theorem d_Ct_step_2 : decode b_Ct_step 2 = .ok (.invokevirtual 65, 3) := by decide +kernel
theorem d_Ct_step_5 : decode b_Ct_step 5 = .ok (.astore 5, 2) := by decide +kernel
theorem d_Ct_step_7 : decode b_Ct_step 7 = .ok (.aload 5, 2) := by decide +kernel
theorem d_Ct_step_9 : decode b_Ct_step 9 = .ok (.ifnull 28, 3) := by decide +kernel
theorem d_Ct_step_12 : decode b_Ct_step 12 = .ok (.aload_n 0, 1) := by decide +kernel
theorem d_Ct_step_13 : decode b_Ct_step 13 = .ok (.aload 5, 2) := by decide +kernel
theorem d_Ct_step_15 : decode b_Ct_step 15 = .ok (.invokevirtual 78, 3) := by decide +kernel
theorem d_Ct_step_18 : decode b_Ct_step 18 = .ok (.ifCond .eq 19, 3) := by decide +kernel
theorem d_Ct_step_21 : decode b_Ct_step 21 = .ok (.aload 5, 2) := by decide +kernel
theorem d_Ct_step_23 : decode b_Ct_step 23 = .ok (.iload_n 2, 1) := by decide +kernel
theorem d_Ct_step_24 : decode b_Ct_step 24 = .ok (.iload_n 3, 1) := by decide +kernel
theorem d_Ct_step_25 : decode b_Ct_step 25 = .ok (.iload 4, 2) := by decide +kernel
theorem d_Ct_step_27 : decode b_Ct_step 27 = .ok (.invokevirtual 82, 3) := by decide +kernel
theorem d_Ct_step_30 : decode b_Ct_step 30 = .ok (.ifCond .eq 7, 3) := by decide +kernel
theorem d_Ct_step_33 : decode b_Ct_step 33 = .ok (.iconst 1, 1) := by decide +kernel
theorem d_Ct_step_34 : decode b_Ct_step 34 = .ok (.goto 4, 3) := by decide +kernel
theorem d_Ct_step_37 : decode b_Ct_step 37 = .ok (.iconst 0, 1) := by decide +kernel
theorem d_Ct_step_38 : decode b_Ct_step 38 = .ok (.ireturn, 1) := by decide +kernel
theorem d_Ct_rest_0 : decode b_Ct_rest 0 = .ok (.aload_n 0, 1) := by decide +kernel
theorem d_Ct_rest_1 : decode b_Ct_rest 1 = .ok (.iload_n 1, 1) := by decide +kernel
theorem d_Ct_rest_2 : decode b_Ct_rest 2 = .ok (.invokevirtual 65, 3) := by decide +kernel
theorem d_Ct_rest_5 : decode b_Ct_rest 5 = .ok (.astore 4, 2) := by decide +kernel
theorem d_Ct_rest_7 : decode b_Ct_rest 7 = .ok (.aload 4, 2) := by decide +kernel
theorem d_Ct_rest_9 : decode b_Ct_rest 9 = .ok (.ifnull 17, 3) := by decide +kernel
theorem d_Ct_rest_12 : decode b_Ct_rest 12 = .ok (.aload 4, 2) := by decide +kernel
theorem d_Ct_rest_14 : decode b_Ct_rest 14 = .ok (.iload_n 2, 1) := by decide +kernel
theorem d_Ct_rest_15 : decode b_Ct_rest 15 = .ok (.iload_n 3, 1) := by decide +kernel
theorem d_Ct_rest_16 : decode b_Ct_rest 16 = .ok (.invokevirtual 86, 3) := by decide +kernel
theorem d_Ct_rest_19 : decode b_Ct_rest 19 = .ok (.ifCond .eq 7, 3) := by decide +kernel
theorem d_Ct_rest_22 : decode b_Ct_rest 22 = .ok (.iconst 1, 1) := by decide +kernel
theorem d_Ct_rest_23 : decode b_Ct_rest 23 = .ok (.goto 4, 3) := by decide +kernel
theorem d_Ct_rest_26 : decode b_Ct_rest 26 = .ok (.iconst 0, 1) := by decide +kernel
theorem d_Ct_rest_27 : decode b_Ct_rest 27 = .ok (.ireturn, 1) := by decide +kernel
theorem d_Ct_charge_0 : decode b_Ct_charge 0 = .ok (.aload_n 0, 1) := by decide +kernel
theorem d_Ct_charge_1 : decode b_Ct_charge 1 = .ok (.iload_n 1, 1) := by decide +kernel
theorem d_Ct_charge_2 : decode b_Ct_charge 2 = .ok (.invokevirtual 65, 3) := by decide +kernel
theorem d_Ct_charge_5 : decode b_Ct_charge 5 = .ok (.astore_n 2, 1) := by decide +kernel
theorem d_Ct_charge_6 : decode b_Ct_charge 6 = .ok (.aload_n 2, 1) := by decide +kernel
theorem d_Ct_charge_7 : decode b_Ct_charge 7 = .ok (.ifnonnull 9, 3) := by decide +kernel
theorem d_Ct_charge_10 : decode b_Ct_charge 10 = .ok (.ldc2_w 92, 3) := by decide +kernel
theorem d_Ct_charge_13 : decode b_Ct_charge 13 = .ok (.goto 7, 3) := by decide +kernel
theorem d_Ct_charge_16 : decode b_Ct_charge 16 = .ok (.aload_n 2, 1) := by decide +kernel
theorem d_Ct_charge_17 : decode b_Ct_charge 17 = .ok (.invokevirtual 94, 3) := by decide +kernel
theorem d_Ct_charge_20 : decode b_Ct_charge 20 = .ok (.lreturn, 1) := by decide +kernel
theorem d_Ct_resistance_0 : decode b_Ct_resistance 0 = .ok (.aload_n 0, 1) := by decide +kernel
theorem d_Ct_resistance_1 : decode b_Ct_resistance 1 = .ok (.iload_n 1, 1) := by decide +kernel
theorem d_Ct_resistance_2 : decode b_Ct_resistance 2 = .ok (.invokevirtual 65, 3) := by decide +kernel
theorem d_Ct_resistance_5 : decode b_Ct_resistance 5 = .ok (.astore_n 3, 1) := by decide +kernel
theorem d_Ct_resistance_6 : decode b_Ct_resistance 6 = .ok (.aload_n 3, 1) := by decide +kernel
theorem d_Ct_resistance_7 : decode b_Ct_resistance 7 = .ok (.ifnull 10, 3) := by decide +kernel
theorem d_Ct_resistance_10 : decode b_Ct_resistance 10 = .ok (.aload_n 3, 1) := by decide +kernel
theorem d_Ct_resistance_11 : decode b_Ct_resistance 11 = .ok (.invokevirtual 98, 3) := by decide +kernel
theorem d_Ct_resistance_14 : decode b_Ct_resistance 14 = .ok (.ifCond .ne 5, 3) := by decide +kernel
theorem d_Ct_resistance_17 : decode b_Ct_resistance 17 = .ok (.iconst (-1), 1) := by decide +kernel
theorem d_Ct_resistance_18 : decode b_Ct_resistance 18 = .ok (.ireturn, 1) := by decide +kernel
theorem d_Ct_resistance_19 : decode b_Ct_resistance 19 = .ok (.aload_n 3, 1) := by decide +kernel
theorem d_Ct_resistance_20 : decode b_Ct_resistance 20 = .ok (.getfield 102, 3) := by decide +kernel
theorem d_Ct_resistance_23 : decode b_Ct_resistance 23 = .ok (.aload_n 3, 1) := by decide +kernel
theorem d_Ct_resistance_24 : decode b_Ct_resistance 24 = .ok (.getfield 105, 3) := by decide +kernel
theorem d_Ct_resistance_27 : decode b_Ct_resistance 27 = .ok (.iload_n 2, 1) := by decide +kernel
theorem d_Ct_resistance_28 : decode b_Ct_resistance 28 = .ok (.invokestatic 108, 3) := by decide +kernel
theorem d_Ct_resistance_31 : decode b_Ct_resistance 31 = .ok (.ireturn, 1) := by decide +kernel
theorem d_Ct_partOf_0 : decode b_Ct_partOf 0 = .ok (.iload_n 0, 1) := by decide +kernel
theorem d_Ct_partOf_1 : decode b_Ct_partOf 1 = .ok (.iload_n 1, 1) := by decide +kernel
theorem d_Ct_partOf_2 : decode b_Ct_partOf 2 = .ok (.invokestatic 190, 3) := by decide +kernel
theorem d_Ct_partOf_5 : decode b_Ct_partOf 5 = .ok (.istore_n 3, 1) := by decide +kernel
theorem d_Ct_partOf_6 : decode b_Ct_partOf 6 = .ok (.iload_n 3, 1) := by decide +kernel
theorem d_Ct_partOf_7 : decode b_Ct_partOf 7 = .ok (.ifCond .eq 13, 3) := by decide +kernel
theorem d_Ct_partOf_10 : decode b_Ct_partOf 10 = .ok (.iload_n 2, 1) := by decide +kernel
theorem d_Ct_partOf_11 : decode b_Ct_partOf 11 = .ok (.i2l, 1) := by decide +kernel
theorem d_Ct_partOf_12 : decode b_Ct_partOf 12 = .ok (.lconst 0, 1) := by decide +kernel
theorem d_Ct_partOf_13 : decode b_Ct_partOf 13 = .ok (.lconst 1, 1) := by decide +kernel
theorem d_Ct_partOf_14 : decode b_Ct_partOf 14 = .ok (.invokestatic 71, 3) := by decide +kernel
theorem d_Ct_partOf_17 : decode b_Ct_partOf 17 = .ok (.ifCond .ne 5, 3) := by decide +kernel
theorem d_Ct_partOf_20 : decode b_Ct_partOf 20 = .ok (.iconst (-1), 1) := by decide +kernel
theorem d_Ct_partOf_21 : decode b_Ct_partOf 21 = .ok (.ireturn, 1) := by decide +kernel
theorem d_Ct_partOf_22 : decode b_Ct_partOf 22 = .ok (.iload_n 2, 1) := by decide +kernel
theorem d_Ct_partOf_23 : decode b_Ct_partOf 23 = .ok (.ifCond .ne 9, 3) := by decide +kernel
theorem d_Ct_partOf_26 : decode b_Ct_partOf 26 = .ok (.iload_n 0, 1) := by decide +kernel
theorem d_Ct_partOf_27 : decode b_Ct_partOf 27 = .ok (.iload_n 3, 1) := by decide +kernel
theorem d_Ct_partOf_28 : decode b_Ct_partOf 28 = .ok (.idiv, 1) := by decide +kernel
theorem d_Ct_partOf_29 : decode b_Ct_partOf 29 = .ok (.goto 6, 3) := by decide +kernel
theorem d_Ct_partOf_32 : decode b_Ct_partOf 32 = .ok (.iload_n 1, 1) := by decide +kernel
theorem d_Ct_partOf_33 : decode b_Ct_partOf 33 = .ok (.iload_n 3, 1) := by decide +kernel
theorem d_Ct_partOf_34 : decode b_Ct_partOf 34 = .ok (.idiv, 1) := by decide +kernel
theorem d_Ct_partOf_35 : decode b_Ct_partOf 35 = .ok (.ireturn, 1) := by decide +kernel
theorem d_Ct_commonDivisor_0 : decode b_Ct_commonDivisor 0 = .ok (.iload_n 0, 1) := by decide +kernel
theorem d_Ct_commonDivisor_1 : decode b_Ct_commonDivisor 1 = .ok (.istore_n 2, 1) := by decide +kernel
theorem d_Ct_commonDivisor_2 : decode b_Ct_commonDivisor 2 = .ok (.iload_n 1, 1) := by decide +kernel
theorem d_Ct_commonDivisor_3 : decode b_Ct_commonDivisor 3 = .ok (.istore_n 3, 1) := by decide +kernel
theorem d_Ct_commonDivisor_4 : decode b_Ct_commonDivisor 4 = .ok (.iconst 0, 1) := by decide +kernel
theorem d_Ct_commonDivisor_5 : decode b_Ct_commonDivisor 5 = .ok (.istore 4, 2) := by decide +kernel
theorem d_Ct_commonDivisor_7 : decode b_Ct_commonDivisor 7 = .ok (.iload 4, 2) := by decide +kernel
theorem d_Ct_commonDivisor_9 : decode b_Ct_commonDivisor 9 = .ok (.bipush 64, 2) := by decide +kernel
theorem d_Ct_commonDivisor_11 : decode b_Ct_commonDivisor 11 = .ok (.if_icmp .ge 23, 3) := by decide +kernel
theorem d_Ct_commonDivisor_14 : decode b_Ct_commonDivisor 14 = .ok (.iload_n 3, 1) := by decide +kernel
theorem d_Ct_commonDivisor_15 : decode b_Ct_commonDivisor 15 = .ok (.ifCond .eq 19, 3) := by decide +kernel
theorem d_Ct_commonDivisor_18 : decode b_Ct_commonDivisor 18 = .ok (.iload_n 2, 1) := by decide +kernel
theorem d_Ct_commonDivisor_19 : decode b_Ct_commonDivisor 19 = .ok (.iload_n 3, 1) := by decide +kernel
theorem d_Ct_commonDivisor_20 : decode b_Ct_commonDivisor 20 = .ok (.irem, 1) := by decide +kernel
theorem d_Ct_commonDivisor_21 : decode b_Ct_commonDivisor 21 = .ok (.istore 5, 2) := by decide +kernel
theorem d_Ct_commonDivisor_23 : decode b_Ct_commonDivisor 23 = .ok (.iload_n 3, 1) := by decide +kernel
theorem d_Ct_commonDivisor_24 : decode b_Ct_commonDivisor 24 = .ok (.istore_n 2, 1) := by decide +kernel
theorem d_Ct_commonDivisor_25 : decode b_Ct_commonDivisor 25 = .ok (.iload 5, 2) := by decide +kernel
theorem d_Ct_commonDivisor_27 : decode b_Ct_commonDivisor 27 = .ok (.istore_n 3, 1) := by decide +kernel
theorem d_Ct_commonDivisor_28 : decode b_Ct_commonDivisor 28 = .ok (.iinc 4 1, 3) := by decide +kernel
theorem d_Ct_commonDivisor_31 : decode b_Ct_commonDivisor 31 = .ok (.goto (-24), 3) := by decide +kernel
theorem d_Ct_commonDivisor_34 : decode b_Ct_commonDivisor 34 = .ok (.iload_n 2, 1) := by decide +kernel
theorem d_Ct_commonDivisor_35 : decode b_Ct_commonDivisor 35 = .ok (.ireturn, 1) := by decide +kernel
theorem d_Ct_loss_0 : decode b_Ct_loss 0 = .ok (.aload_n 0, 1) := by decide +kernel
theorem d_Ct_loss_1 : decode b_Ct_loss 1 = .ok (.iload_n 1, 1) := by decide +kernel
theorem d_Ct_loss_2 : decode b_Ct_loss 2 = .ok (.invokevirtual 65, 3) := by decide +kernel
theorem d_Ct_loss_5 : decode b_Ct_loss 5 = .ok (.astore_n 3, 1) := by decide +kernel
theorem d_Ct_loss_6 : decode b_Ct_loss 6 = .ok (.aload_n 3, 1) := by decide +kernel
theorem d_Ct_loss_7 : decode b_Ct_loss 7 = .ok (.ifnull 10, 3) := by decide +kernel
theorem d_Ct_loss_10 : decode b_Ct_loss 10 = .ok (.aload_n 3, 1) := by decide +kernel
theorem d_Ct_loss_11 : decode b_Ct_loss 11 = .ok (.invokevirtual 112, 3) := by decide +kernel
theorem d_Ct_loss_14 : decode b_Ct_loss 14 = .ok (.ifCond .ne 5, 3) := by decide +kernel
theorem d_Ct_loss_17 : decode b_Ct_loss 17 = .ok (.iconst (-1), 1) := by decide +kernel
theorem d_Ct_loss_18 : decode b_Ct_loss 18 = .ok (.ireturn, 1) := by decide +kernel
theorem d_Ct_loss_19 : decode b_Ct_loss 19 = .ok (.aload_n 3, 1) := by decide +kernel
theorem d_Ct_loss_20 : decode b_Ct_loss 20 = .ok (.invokevirtual 115, 3) := by decide +kernel
theorem d_Ct_loss_23 : decode b_Ct_loss 23 = .ok (.aload_n 3, 1) := by decide +kernel
theorem d_Ct_loss_24 : decode b_Ct_loss 24 = .ok (.invokevirtual 119, 3) := by decide +kernel
theorem d_Ct_loss_27 : decode b_Ct_loss 27 = .ok (.iload_n 2, 1) := by decide +kernel
theorem d_Ct_loss_28 : decode b_Ct_loss 28 = .ok (.invokestatic 108, 3) := by decide +kernel
theorem d_Ct_loss_31 : decode b_Ct_loss 31 = .ok (.ireturn, 1) := by decide +kernel
theorem d_Ct_unit_0 : decode b_Ct_unit 0 = .ok (.iload_n 1, 1) := by decide +kernel
theorem d_Ct_unit_1 : decode b_Ct_unit 1 = .ok (.i2l, 1) := by decide +kernel
theorem d_Ct_unit_2 : decode b_Ct_unit 2 = .ok (.lconst 0, 1) := by decide +kernel
theorem d_Ct_unit_3 : decode b_Ct_unit 3 = .ok (.ldc2_w 122, 3) := by decide +kernel
theorem d_Ct_unit_6 : decode b_Ct_unit 6 = .ok (.invokestatic 71, 3) := by decide +kernel
theorem d_Ct_unit_9 : decode b_Ct_unit 9 = .ok (.ifCond .eq 19, 3) := by decide +kernel
theorem d_Ct_unit_12 : decode b_Ct_unit 12 = .ok (.aload_n 0, 1) := by decide +kernel
theorem d_Ct_unit_13 : decode b_Ct_unit 13 = .ok (.getfield 29, 3) := by decide +kernel
theorem d_Ct_unit_16 : decode b_Ct_unit 16 = .ok (.iload_n 1, 1) := by decide +kernel
theorem d_Ct_unit_17 : decode b_Ct_unit 17 = .ok (.i2c, 1) := by decide +kernel
theorem d_Ct_unit_18 : decode b_Ct_unit 18 = .ok (.invokevirtual 124, 3) := by decide +kernel
theorem d_Ct_unit_21 : decode b_Ct_unit 21 = .ok (.ifCond .eq 7, 3) := by decide +kernel
theorem d_Ct_unit_24 : decode b_Ct_unit 24 = .ok (.iconst 1, 1) := by decide +kernel
theorem d_Ct_unit_25 : decode b_Ct_unit 25 = .ok (.goto 4, 3) := by decide +kernel
theorem d_Ct_unit_28 : decode b_Ct_unit 28 = .ok (.iconst 0, 1) := by decide +kernel
theorem d_Ct_unit_29 : decode b_Ct_unit 29 = .ok (.ireturn, 1) := by decide +kernel
theorem d_Ct_rules_0 : decode b_Ct_rules 0 = .ok (.aload_n 0, 1) := by decide +kernel
theorem d_Ct_rules_1 : decode b_Ct_rules 1 = .ok (.getfield 29, 3) := by decide +kernel
theorem d_Ct_rules_4 : decode b_Ct_rules 4 = .ok (.aload_n 0, 1) := by decide +kernel
theorem d_Ct_rules_5 : decode b_Ct_rules 5 = .ok (.getfield 40, 3) := by decide +kernel
theorem d_Ct_rules_8 : decode b_Ct_rules 8 = .ok (.invokevirtual 128, 3) := by decide +kernel
theorem d_Ct_rules_11 : decode b_Ct_rules 11 = .ok (.istore_n 1, 1) := by decide +kernel
theorem d_Ct_rules_12 : decode b_Ct_rules 12 = .ok (.aload_n 0, 1) := by decide +kernel
theorem d_Ct_rules_13 : decode b_Ct_rules 13 = .ok (.getfield 29, 3) := by decide +kernel
theorem d_Ct_rules_16 : decode b_Ct_rules 16 = .ok (.invokevirtual 132, 3) := by decide +kernel
theorem d_Ct_rules_19 : decode b_Ct_rules 19 = .ok (.iload_n 1, 1) := by decide +kernel
theorem d_Ct_rules_20 : decode b_Ct_rules 20 = .ok (.ifCond .lt 21, 3) := by decide +kernel
theorem d_Ct_rules_23 : decode b_Ct_rules 23 = .ok (.aload_n 0, 1) := by decide +kernel
theorem d_Ct_rules_24 : decode b_Ct_rules 24 = .ok (.getfield 36, 3) := by decide +kernel
theorem d_Ct_rules_27 : decode b_Ct_rules 27 = .ok (.astore_n 2, 1) := by decide +kernel
theorem d_Ct_rules_28 : decode b_Ct_rules 28 = .ok (.aload_n 0, 1) := by decide +kernel
theorem d_Ct_rules_29 : decode b_Ct_rules 29 = .ok (.aload_n 0, 1) := by decide +kernel
theorem d_Ct_rules_30 : decode b_Ct_rules 30 = .ok (.getfield 40, 3) := by decide +kernel
theorem d_Ct_rules_33 : decode b_Ct_rules 33 = .ok (.putfield 36, 3) := by decide +kernel
theorem d_Ct_rules_36 : decode b_Ct_rules 36 = .ok (.aload_n 0, 1) := by decide +kernel
theorem d_Ct_rules_37 : decode b_Ct_rules 37 = .ok (.aload_n 2, 1) := by decide +kernel
theorem d_Ct_rules_38 : decode b_Ct_rules 38 = .ok (.putfield 40, 3) := by decide +kernel
theorem d_Ct_rules_41 : decode b_Ct_rules 41 = .ok (.iload_n 1, 1) := by decide +kernel
theorem d_Ct_rules_42 : decode b_Ct_rules 42 = .ok (.ireturn, 1) := by decide +kernel
theorem d_Ct_cls_0 : decode b_Ct_cls 0 = .ok (.aload_n 0, 1) := by decide +kernel
theorem d_Ct_cls_1 : decode b_Ct_cls 1 = .ok (.aload_n 0, 1) := by decide +kernel
theorem d_Ct_cls_2 : decode b_Ct_cls 2 = .ok (.iload_n 1, 1) := by decide +kernel
theorem d_Ct_cls_3 : decode b_Ct_cls 3 = .ok (.invokevirtual 65, 3) := by decide +kernel
theorem d_Ct_cls_6 : decode b_Ct_cls 6 = .ok (.invokevirtual 135, 3) := by decide +kernel
theorem d_Ct_cls_9 : decode b_Ct_cls 9 = .ok (.ireturn, 1) := by decide +kernel
theorem d_Ct_classOf_0 : decode b_Ct_classOf 0 = .ok (.aload_n 1, 1) := by decide +kernel
theorem d_Ct_classOf_1 : decode b_Ct_classOf 1 = .ok (.ifnull 10, 3) := by decide +kernel
theorem d_Ct_classOf_4 : decode b_Ct_classOf 4 = .ok (.aload_n 1, 1) := by decide +kernel
theorem d_Ct_classOf_5 : decode b_Ct_classOf 5 = .ok (.invokevirtual 144, 3) := by decide +kernel
theorem d_Ct_classOf_8 : decode b_Ct_classOf 8 = .ok (.ifCond .eq 7, 3) := by decide +kernel
theorem d_Ct_classOf_11 : decode b_Ct_classOf 11 = .ok (.iconst (-1), 1) := by decide +kernel
theorem d_Ct_classOf_12 : decode b_Ct_classOf 12 = .ok (.goto 11, 3) := by decide +kernel
theorem d_Ct_classOf_15 : decode b_Ct_classOf 15 = .ok (.aload_n 0, 1) := by decide +kernel
theorem d_Ct_classOf_16 : decode b_Ct_classOf 16 = .ok (.getfield 36, 3) := by decide +kernel
theorem d_Ct_classOf_19 : decode b_Ct_classOf 19 = .ok (.aload_n 1, 1) := by decide +kernel
theorem d_Ct_classOf_20 : decode b_Ct_classOf 20 = .ok (.invokevirtual 187, 3) := by decide +kernel
theorem d_Ct_classOf_23 : decode b_Ct_classOf 23 = .ok (.ireturn, 1) := by decide +kernel
theorem d_Ct_uns_0 : decode b_Ct_uns 0 = .ok (.aload_n 0, 1) := by decide +kernel
theorem d_Ct_uns_1 : decode b_Ct_uns 1 = .ok (.iload_n 1, 1) := by decide +kernel
theorem d_Ct_uns_2 : decode b_Ct_uns 2 = .ok (.invokevirtual 65, 3) := by decide +kernel
theorem d_Ct_uns_5 : decode b_Ct_uns 5 = .ok (.astore_n 2, 1) := by decide +kernel
theorem d_Ct_uns_6 : decode b_Ct_uns 6 = .ok (.aload_n 2, 1) := by decide +kernel
theorem d_Ct_uns_7 : decode b_Ct_uns 7 = .ok (.ifnull 14, 3) := by decide +kernel
theorem d_Ct_uns_10 : decode b_Ct_uns 10 = .ok (.aload_n 2, 1) := by decide +kernel
theorem d_Ct_uns_11 : decode b_Ct_uns 11 = .ok (.invokevirtual 139, 3) := by decide +kernel
theorem d_Ct_uns_14 : decode b_Ct_uns 14 = .ok (.ifCond .eq 7, 3) := by decide +kernel
theorem d_Ct_uns_17 : decode b_Ct_uns 17 = .ok (.iconst 1, 1) := by decide +kernel
theorem d_Ct_uns_18 : decode b_Ct_uns 18 = .ok (.goto 4, 3) := by decide +kernel
theorem d_Ct_uns_21 : decode b_Ct_uns 21 = .ok (.iconst 0, 1) := by decide +kernel
theorem d_Ct_uns_22 : decode b_Ct_uns 22 = .ok (.ireturn, 1) := by decide +kernel
theorem d_Ct_may_0 : decode b_Ct_may 0 = .ok (.aload_n 0, 1) := by decide +kernel
theorem d_Ct_may_1 : decode b_Ct_may 1 = .ok (.iload_n 1, 1) := by decide +kernel
theorem d_Ct_may_2 : decode b_Ct_may 2 = .ok (.invokevirtual 65, 3) := by decide +kernel
theorem d_Ct_may_5 : decode b_Ct_may 5 = .ok (.astore_n 3, 1) := by decide +kernel
theorem d_Ct_may_6 : decode b_Ct_may 6 = .ok (.aload_n 3, 1) := by decide +kernel
theorem d_Ct_may_7 : decode b_Ct_may 7 = .ok (.ifnull 15, 3) := by decide +kernel
theorem d_Ct_may_10 : decode b_Ct_may 10 = .ok (.iload_n 2, 1) := by decide +kernel
theorem d_Ct_may_11 : decode b_Ct_may 11 = .ok (.i2l, 1) := by decide +kernel
theorem d_Ct_may_12 : decode b_Ct_may 12 = .ok (.lconst 0, 1) := by decide +kernel
theorem d_Ct_may_13 : decode b_Ct_may 13 = .ok (.ldc2_w 142, 3) := by decide +kernel
theorem d_Ct_may_16 : decode b_Ct_may 16 = .ok (.invokestatic 71, 3) := by decide +kernel
theorem d_Ct_may_19 : decode b_Ct_may 19 = .ok (.ifCond .ne 5, 3) := by decide +kernel
theorem d_Ct_may_22 : decode b_Ct_may 22 = .ok (.iconst 0, 1) := by decide +kernel
theorem d_Ct_may_23 : decode b_Ct_may 23 = .ok (.ireturn, 1) := by decide +kernel
theorem d_Ct_may_24 : decode b_Ct_may 24 = .ok (.aload_n 3, 1) := by decide +kernel
theorem d_Ct_may_25 : decode b_Ct_may 25 = .ok (.invokevirtual 139, 3) := by decide +kernel
theorem d_Ct_may_28 : decode b_Ct_may 28 = .ok (.ifCond .eq 19, 3) := by decide +kernel
theorem d_Ct_may_31 : decode b_Ct_may 31 = .ok (.iload_n 2, 1) := by decide +kernel
theorem d_Ct_may_32 : decode b_Ct_may 32 = .ok (.iconst 3, 1) := by decide +kernel
theorem d_Ct_may_33 : decode b_Ct_may 33 = .ok (.if_icmp .eq 8, 3) := by decide +kernel
theorem d_Ct_may_36 : decode b_Ct_may 36 = .ok (.iload_n 2, 1) := by decide +kernel
theorem d_Ct_may_37 : decode b_Ct_may 37 = .ok (.iconst 4, 1) := by decide +kernel
theorem d_Ct_may_38 : decode b_Ct_may 38 = .ok (.if_icmp .ne 7, 3) := by decide +kernel
theorem d_Ct_may_41 : decode b_Ct_may 41 = .ok (.iconst 1, 1) := by decide +kernel
theorem d_Ct_may_42 : decode b_Ct_may 42 = .ok (.goto 4, 3) := by decide +kernel
theorem d_Ct_may_45 : decode b_Ct_may 45 = .ok (.iconst 0, 1) := by decide +kernel
theorem d_Ct_may_46 : decode b_Ct_may 46 = .ok (.ireturn, 1) := by decide +kernel
theorem d_Ct_may_47 : decode b_Ct_may 47 = .ok (.aload_n 3, 1) := by decide +kernel
theorem d_Ct_may_48 : decode b_Ct_may 48 = .ok (.invokevirtual 144, 3) := by decide +kernel
theorem d_Ct_may_51 : decode b_Ct_may 51 = .ok (.ifCond .eq 18, 3) := by decide +kernel
theorem d_Ct_may_54 : decode b_Ct_may 54 = .ok (.iload_n 2, 1) := by decide +kernel
theorem d_Ct_may_55 : decode b_Ct_may 55 = .ok (.ifCond .eq 8, 3) := by decide +kernel
theorem d_Ct_may_58 : decode b_Ct_may 58 = .ok (.iload_n 2, 1) := by decide +kernel
theorem d_Ct_may_59 : decode b_Ct_may 59 = .ok (.iconst 4, 1) := by decide +kernel
theorem d_Ct_may_60 : decode b_Ct_may 60 = .ok (.if_icmp .ne 7, 3) := by decide +kernel
theorem d_Ct_may_63 : decode b_Ct_may 63 = .ok (.iconst 1, 1) := by decide +kernel
theorem d_Ct_may_64 : decode b_Ct_may 64 = .ok (.goto 4, 3) := by decide +kernel
theorem d_Ct_may_67 : decode b_Ct_may 67 = .ok (.iconst 0, 1) := by decide +kernel
theorem d_Ct_may_68 : decode b_Ct_may 68 = .ok (.ireturn, 1) := by decide +kernel
theorem d_Ct_may_69 : decode b_Ct_may 69 = .ok (.iload_n 2, 1) := by decide +kernel
theorem d_Ct_may_70 : decode b_Ct_may 70 = .ok (.iconst 4, 1) := by decide +kernel
theorem d_Ct_may_71 : decode b_Ct_may 71 = .ok (.if_icmp .eq 7, 3) := by decide +kernel
theorem d_Ct_may_74 : decode b_Ct_may 74 = .ok (.iconst 1, 1) := by decide +kernel
theorem d_Ct_may_75 : decode b_Ct_may 75 = .ok (.goto 4, 3) := by decide +kernel
theorem d_Ct_may_78 : decode b_Ct_may 78 = .ok (.iconst 0, 1) := by decide +kernel
theorem d_Ct_may_79 : decode b_Ct_may 79 = .ok (.ireturn, 1) := by decide +kernel
theorem d_Ct_pack_0 : decode b_Ct_pack 0 = .ok (.iload_n 1, 1) := by decide +kernel
theorem d_Ct_pack_1 : decode b_Ct_pack 1 = .ok (.i2l, 1) := by decide +kernel
theorem d_Ct_pack_2 : decode b_Ct_pack 2 = .ok (.lconst 1, 1) := by decide +kernel
theorem d_Ct_pack_3 : decode b_Ct_pack 3 = .ok (.ldc2_w 142, 3) := by decide +kernel
theorem d_Ct_pack_6 : decode b_Ct_pack 6 = .ok (.invokestatic 71, 3) := by decide +kernel
theorem d_Ct_pack_9 : decode b_Ct_pack 9 = .ok (.ifCond .eq 15, 3) := by decide +kernel
theorem d_Ct_pack_12 : decode b_Ct_pack 12 = .ok (.iload_n 2, 1) := by decide +kernel
theorem d_Ct_pack_13 : decode b_Ct_pack 13 = .ok (.i2l, 1) := by decide +kernel
theorem d_Ct_pack_14 : decode b_Ct_pack 14 = .ok (.lconst 1, 1) := by decide +kernel
theorem d_Ct_pack_15 : decode b_Ct_pack 15 = .ok (.ldc2_w 142, 3) := by decide +kernel
theorem d_Ct_pack_18 : decode b_Ct_pack 18 = .ok (.invokestatic 71, 3) := by decide +kernel
theorem d_Ct_pack_21 : decode b_Ct_pack 21 = .ok (.ifCond .ne 7, 3) := by decide +kernel
theorem d_Ct_pack_24 : decode b_Ct_pack 24 = .ok (.ldc2_w 147, 3) := by decide +kernel
theorem d_Ct_pack_27 : decode b_Ct_pack 27 = .ok (.lreturn, 1) := by decide +kernel
theorem d_Ct_pack_28 : decode b_Ct_pack 28 = .ok (.aload_n 0, 1) := by decide +kernel
theorem d_Ct_pack_29 : decode b_Ct_pack 29 = .ok (.getfield 46, 3) := by decide +kernel
theorem d_Ct_pack_32 : decode b_Ct_pack 32 = .ok (.invokevirtual 149, 3) := by decide +kernel
theorem d_Ct_pack_35 : decode b_Ct_pack 35 = .ok (.iconst 0, 1) := by decide +kernel
theorem d_Ct_pack_36 : decode b_Ct_pack 36 = .ok (.istore_n 3, 1) := by decide +kernel
theorem d_Ct_pack_37 : decode b_Ct_pack 37 = .ok (.iload_n 3, 1) := by decide +kernel
theorem d_Ct_pack_38 : decode b_Ct_pack 38 = .ok (.aload_n 0, 1) := by decide +kernel
theorem d_Ct_pack_39 : decode b_Ct_pack 39 = .ok (.getfield 15, 3) := by decide +kernel
theorem d_Ct_pack_42 : decode b_Ct_pack 42 = .ok (.if_icmp .ge 50, 3) := by decide +kernel
theorem d_Ct_pack_45 : decode b_Ct_pack 45 = .ok (.aload_n 0, 1) := by decide +kernel
theorem d_Ct_pack_46 : decode b_Ct_pack 46 = .ok (.iload_n 3, 1) := by decide +kernel
theorem d_Ct_pack_47 : decode b_Ct_pack 47 = .ok (.invokevirtual 65, 3) := by decide +kernel
theorem d_Ct_pack_50 : decode b_Ct_pack 50 = .ok (.astore 4, 2) := by decide +kernel
theorem d_Ct_pack_52 : decode b_Ct_pack 52 = .ok (.aload 4, 2) := by decide +kernel
theorem d_Ct_pack_54 : decode b_Ct_pack 54 = .ok (.ifnull 32, 3) := by decide +kernel
theorem d_Ct_pack_57 : decode b_Ct_pack 57 = .ok (.aload 4, 2) := by decide +kernel
theorem d_Ct_pack_59 : decode b_Ct_pack 59 = .ok (.invokevirtual 144, 3) := by decide +kernel
theorem d_Ct_pack_62 : decode b_Ct_pack 62 = .ok (.ifCond .ne 24, 3) := by decide +kernel
theorem d_Ct_pack_65 : decode b_Ct_pack 65 = .ok (.aload 4, 2) := by decide +kernel
theorem d_Ct_pack_67 : decode b_Ct_pack 67 = .ok (.invokevirtual 139, 3) := by decide +kernel
theorem d_Ct_pack_70 : decode b_Ct_pack 70 = .ok (.ifCond .ne 16, 3) := by decide +kernel
theorem d_Ct_pack_73 : decode b_Ct_pack 73 = .ok (.aload_n 0, 1) := by decide +kernel
theorem d_Ct_pack_74 : decode b_Ct_pack 74 = .ok (.getfield 46, 3) := by decide +kernel
theorem d_Ct_pack_77 : decode b_Ct_pack 77 = .ok (.iload_n 3, 1) := by decide +kernel
theorem d_Ct_pack_78 : decode b_Ct_pack 78 = .ok (.aload 4, 2) := by decide +kernel
theorem d_Ct_pack_80 : decode b_Ct_pack 80 = .ok (.invokevirtual 94, 3) := by decide +kernel
theorem d_Ct_pack_83 : decode b_Ct_pack 83 = .ok (.invokevirtual 150, 3) := by decide +kernel
theorem d_Ct_pack_86 : decode b_Ct_pack 86 = .ok (.iinc 3 1, 3) := by decide +kernel
theorem d_Ct_pack_89 : decode b_Ct_pack 89 = .ok (.goto (-52), 3) := by decide +kernel
theorem d_Ct_pack_92 : decode b_Ct_pack 92 = .ok (.aload_n 0, 1) := by decide +kernel
theorem d_Ct_pack_93 : decode b_Ct_pack 93 = .ok (.getfield 46, 3) := by decide +kernel
theorem d_Ct_pack_96 : decode b_Ct_pack 96 = .ok (.iload_n 1, 1) := by decide +kernel
theorem d_Ct_pack_97 : decode b_Ct_pack 97 = .ok (.iload_n 2, 1) := by decide +kernel
theorem d_Ct_pack_98 : decode b_Ct_pack 98 = .ok (.invokevirtual 153, 3) := by decide +kernel
theorem d_Ct_pack_101 : decode b_Ct_pack 101 = .ok (.lreturn, 1) := by decide +kernel
theorem d_Ct_packOf_0 : decode b_Ct_packOf 0 = .ok (.aload_n 0, 1) := by decide +kernel
theorem d_Ct_packOf_1 : decode b_Ct_packOf 1 = .ok (.getfield 46, 3) := by decide +kernel
theorem d_Ct_packOf_4 : decode b_Ct_packOf 4 = .ok (.iload_n 1, 1) := by decide +kernel
theorem d_Ct_packOf_5 : decode b_Ct_packOf 5 = .ok (.invokevirtual 157, 3) := by decide +kernel
theorem d_Ct_packOf_8 : decode b_Ct_packOf 8 = .ok (.ireturn, 1) := by decide +kernel
theorem d_Ct_row_0 : decode b_Ct_row 0 = .ok (.aload_n 0, 1) := by decide +kernel
theorem d_Ct_row_1 : decode b_Ct_row 1 = .ok (.getfield 53, 3) := by decide +kernel
theorem d_Ct_row_4 : decode b_Ct_row 4 = .ok (.iload_n 1, 1) := by decide +kernel
theorem d_Ct_row_5 : decode b_Ct_row 5 = .ok (.iload_n 2, 1) := by decide +kernel
theorem d_Ct_row_6 : decode b_Ct_row 6 = .ok (.invokevirtual 161, 3) := by decide +kernel
theorem d_Ct_row_9 : decode b_Ct_row 9 = .ok (.ireturn, 1) := by decide +kernel
theorem d_Ct_fade_0 : decode b_Ct_fade 0 = .ok (.aload_n 0, 1) := by decide +kernel
theorem d_Ct_fade_1 : decode b_Ct_fade 1 = .ok (.iload_n 1, 1) := by decide +kernel
theorem d_Ct_fade_2 : decode b_Ct_fade 2 = .ok (.invokevirtual 65, 3) := by decide +kernel
theorem d_Ct_fade_5 : decode b_Ct_fade 5 = .ok (.astore_n 3, 1) := by decide +kernel
theorem d_Ct_fade_6 : decode b_Ct_fade 6 = .ok (.aload_n 3, 1) := by decide +kernel
theorem d_Ct_fade_7 : decode b_Ct_fade 7 = .ok (.ifnull 15, 3) := by decide +kernel
theorem d_Ct_fade_10 : decode b_Ct_fade 10 = .ok (.iload_n 2, 1) := by decide +kernel
theorem d_Ct_fade_11 : decode b_Ct_fade 11 = .ok (.i2l, 1) := by decide +kernel
theorem d_Ct_fade_12 : decode b_Ct_fade 12 = .ok (.lconst 0, 1) := by decide +kernel
theorem d_Ct_fade_13 : decode b_Ct_fade 13 = .ok (.ldc2_w 163, 3) := by decide +kernel
theorem d_Ct_fade_16 : decode b_Ct_fade 16 = .ok (.invokestatic 71, 3) := by decide +kernel
theorem d_Ct_fade_19 : decode b_Ct_fade 19 = .ok (.ifCond .ne 7, 3) := by decide +kernel
theorem d_Ct_fade_22 : decode b_Ct_fade 22 = .ok (.ldc2_w 92, 3) := by decide +kernel
theorem d_Ct_fade_25 : decode b_Ct_fade 25 = .ok (.lreturn, 1) := by decide +kernel
theorem d_Ct_fade_26 : decode b_Ct_fade 26 = .ok (.aload_n 0, 1) := by decide +kernel
theorem d_Ct_fade_27 : decode b_Ct_fade 27 = .ok (.getfield 53, 3) := by decide +kernel
theorem d_Ct_fade_30 : decode b_Ct_fade 30 = .ok (.aload_n 3, 1) := by decide +kernel
theorem d_Ct_fade_31 : decode b_Ct_fade 31 = .ok (.invokevirtual 94, 3) := by decide +kernel
theorem d_Ct_fade_34 : decode b_Ct_fade 34 = .ok (.iload_n 2, 1) := by decide +kernel
theorem d_Ct_fade_35 : decode b_Ct_fade 35 = .ok (.invokevirtual 165, 3) := by decide +kernel
theorem d_Ct_fade_38 : decode b_Ct_fade 38 = .ok (.lreturn, 1) := by decide +kernel
theorem d_Ct_record_0 : decode b_Ct_record 0 = .ok (.aload_n 0, 1) := by decide +kernel
theorem d_Ct_record_1 : decode b_Ct_record 1 = .ok (.iload_n 1, 1) := by decide +kernel
theorem d_Ct_record_2 : decode b_Ct_record 2 = .ok (.invokevirtual 65, 3) := by decide +kernel
theorem d_Ct_record_5 : decode b_Ct_record 5 = .ok (.astore_n 3, 1) := by decide +kernel
theorem d_Ct_record_6 : decode b_Ct_record 6 = .ok (.aload_n 3, 1) := by decide +kernel
theorem d_Ct_record_7 : decode b_Ct_record 7 = .ok (.ifnonnull 5, 3) := by decide +kernel
theorem d_Ct_record_10 : decode b_Ct_record 10 = .ok (.iconst (-1), 1) := by decide +kernel
theorem d_Ct_record_11 : decode b_Ct_record 11 = .ok (.ireturn, 1) := by decide +kernel
theorem d_Ct_record_12 : decode b_Ct_record 12 = .ok (.aload_n 0, 1) := by decide +kernel
theorem d_Ct_record_13 : decode b_Ct_record 13 = .ok (.getfield 60, 3) := by decide +kernel
theorem d_Ct_record_16 : decode b_Ct_record 16 = .ok (.iconst 0, 1) := by decide +kernel
theorem d_Ct_record_17 : decode b_Ct_record 17 = .ok (.invokevirtual 169, 3) := by decide +kernel
theorem d_Ct_record_20 : decode b_Ct_record 20 = .ok (.aload_n 0, 1) := by decide +kernel
theorem d_Ct_record_21 : decode b_Ct_record 21 = .ok (.getfield 60, 3) := by decide +kernel
theorem d_Ct_record_24 : decode b_Ct_record 24 = .ok (.iload_n 1, 1) := by decide +kernel
theorem d_Ct_record_25 : decode b_Ct_record 25 = .ok (.invokevirtual 173, 3) := by decide +kernel
theorem d_Ct_record_28 : decode b_Ct_record 28 = .ok (.pop, 1) := by decide +kernel
theorem d_Ct_record_29 : decode b_Ct_record 29 = .ok (.aload_n 0, 1) := by decide +kernel
theorem d_Ct_record_30 : decode b_Ct_record 30 = .ok (.getfield 60, 3) := by decide +kernel
theorem d_Ct_record_33 : decode b_Ct_record 33 = .ok (.bipush 32, 2) := by decide +kernel
theorem d_Ct_record_35 : decode b_Ct_record 35 = .ok (.invokevirtual 177, 3) := by decide +kernel
theorem d_Ct_record_38 : decode b_Ct_record 38 = .ok (.pop, 1) := by decide +kernel
theorem d_Ct_record_39 : decode b_Ct_record 39 = .ok (.aload_n 0, 1) := by decide +kernel
theorem d_Ct_record_40 : decode b_Ct_record 40 = .ok (.getfield 60, 3) := by decide +kernel
theorem d_Ct_record_43 : decode b_Ct_record 43 = .ok (.aload_n 3, 1) := by decide +kernel
theorem d_Ct_record_44 : decode b_Ct_record 44 = .ok (.invokevirtual 94, 3) := by decide +kernel
theorem d_Ct_record_47 : decode b_Ct_record 47 = .ok (.l2i, 1) := by decide +kernel
theorem d_Ct_record_48 : decode b_Ct_record 48 = .ok (.invokevirtual 173, 3) := by decide +kernel
theorem d_Ct_record_51 : decode b_Ct_record 51 = .ok (.pop, 1) := by decide +kernel
theorem d_Ct_record_52 : decode b_Ct_record 52 = .ok (.aload_n 0, 1) := by decide +kernel
theorem d_Ct_record_53 : decode b_Ct_record 53 = .ok (.getfield 60, 3) := by decide +kernel
theorem d_Ct_record_56 : decode b_Ct_record 56 = .ok (.bipush 32, 2) := by decide +kernel
theorem d_Ct_record_58 : decode b_Ct_record 58 = .ok (.invokevirtual 177, 3) := by decide +kernel
theorem d_Ct_record_61 : decode b_Ct_record 61 = .ok (.pop, 1) := by decide +kernel
theorem d_Ct_record_62 : decode b_Ct_record 62 = .ok (.aload_n 0, 1) := by decide +kernel
theorem d_Ct_record_63 : decode b_Ct_record 63 = .ok (.getfield 60, 3) := by decide +kernel
theorem d_Ct_record_66 : decode b_Ct_record 66 = .ok (.aload_n 0, 1) := by decide +kernel
theorem d_Ct_record_67 : decode b_Ct_record 67 = .ok (.aload_n 3, 1) := by decide +kernel
theorem d_Ct_record_68 : decode b_Ct_record 68 = .ok (.invokevirtual 135, 3) := by decide +kernel
theorem d_Ct_record_71 : decode b_Ct_record 71 = .ok (.invokevirtual 173, 3) := by decide +kernel
theorem d_Ct_record_74 : decode b_Ct_record 74 = .ok (.pop, 1) := by decide +kernel
theorem d_Ct_record_75 : decode b_Ct_record 75 = .ok (.iload_n 2, 1) := by decide +kernel
theorem d_Ct_record_76 : decode b_Ct_record 76 = .ok (.ifCond .lt 14, 3) := by decide +kernel
theorem d_Ct_record_79 : decode b_Ct_record 79 = .ok (.iload_n 2, 1) := by decide +kernel
theorem d_Ct_record_80 : decode b_Ct_record 80 = .ok (.aload_n 0, 1) := by decide +kernel
theorem d_Ct_record_81 : decode b_Ct_record 81 = .ok (.getfield 60, 3) := by decide +kernel
theorem d_Ct_record_84 : decode b_Ct_record 84 = .ok (.invokevirtual 180, 3) := by decide +kernel
theorem d_Ct_record_87 : decode b_Ct_record 87 = .ok (.if_icmp .lt 5, 3) := by decide +kernel
theorem d_Ct_record_90 : decode b_Ct_record 90 = .ok (.iconst (-1), 1) := by decide +kernel
theorem d_Ct_record_91 : decode b_Ct_record 91 = .ok (.ireturn, 1) := by decide +kernel
theorem d_Ct_record_92 : decode b_Ct_record 92 = .ok (.aload_n 0, 1) := by decide +kernel
theorem d_Ct_record_93 : decode b_Ct_record 93 = .ok (.getfield 60, 3) := by decide +kernel
theorem d_Ct_record_96 : decode b_Ct_record 96 = .ok (.iload_n 2, 1) := by decide +kernel
theorem d_Ct_record_97 : decode b_Ct_record 97 = .ok (.invokevirtual 183, 3) := by decide +kernel
theorem d_Ct_record_100 : decode b_Ct_record 100 = .ok (.ireturn, 1) := by decide +kernel
