theorem d_Md_init_0 : decode b_Md_init 0 = .ok (.aload_n 0, 1) := by decide +kernel
theorem d_Md_init_1 : decode b_Md_init 1 = .ok (.invokespecial 1, 3) := by decide +kernel
theorem d_Md_init_4 : decode b_Md_init 4 = .ok (.aload_n 0, 1) := by decide +kernel
theorem d_Md_init_5 : decode b_Md_init 5 = .ok (.bipush 8, 2) := by decide +kernel
theorem d_Md_init_7 : decode b_Md_init 7 = .ok (.newarray .int, 2) := by decide +kernel
theorem d_Md_init_9 : decode b_Md_init 9 = .ok (.putfield 7, 3) := by decide +kernel
theorem d_Md_init_12 : decode b_Md_init 12 = .ok (.aload_n 0, 1) := by decide +kernel
theorem d_Md_init_13 : decode b_Md_init 13 = .ok (.ldc 13, 2) := by decide +kernel
theorem d_Md_init_15 : decode b_Md_init 15 = .ok (.putfield 14, 3) := by decide +kernel
theorem d_Md_init_18 : decode b_Md_init 18 = .ok (.aload_n 0, 1) := by decide +kernel
theorem d_Md_init_19 : decode b_Md_init 19 = .ok (.bipush 8, 2) := by decide +kernel
theorem d_Md_init_21 : decode b_Md_init 21 = .ok (.newarray .int, 2) := by decide +kernel
theorem d_Md_init_23 : decode b_Md_init 23 = .ok (.putfield 18, 3) := by decide +kernel
theorem d_Md_init_26 : decode b_Md_init 26 = .ok (.aload_n 0, 1) := by decide +kernel
theorem d_Md_init_27 : decode b_Md_init 27 = .ok (.sipush 240, 3) := by decide +kernel
theorem d_Md_init_30 : decode b_Md_init 30 = .ok (.newarray .int, 2) := by decide +kernel
theorem d_Md_init_32 : decode b_Md_init 32 = .ok (.putfield 21, 3) := by decide +kernel
theorem d_Md_init_35 : decode b_Md_init 35 = .ok (.aload_n 0, 1) := by decide +kernel
theorem d_Md_init_36 : decode b_Md_init 36 = .ok (.sipush 240, 3) := by decide +kernel
theorem d_Md_init_39 : decode b_Md_init 39 = .ok (.newarray .int, 2) := by decide +kernel
theorem d_Md_init_41 : decode b_Md_init 41 = .ok (.putfield 24, 3) := by decide +kernel
theorem d_Md_init_44 : decode b_Md_init 44 = .ok (.aload_n 0, 1) := by decide +kernel
theorem d_Md_init_45 : decode b_Md_init 45 = .ok (.sipush 240, 3) := by decide +kernel
theorem d_Md_init_48 : decode b_Md_init 48 = .ok (.newarray .int, 2) := by decide +kernel
theorem d_Md_init_50 : decode b_Md_init 50 = .ok (.putfield 27, 3) := by decide +kernel
theorem d_Md_init_53 : decode b_Md_init 53 = .ok (.aload_n 0, 1) := by decide +kernel
theorem d_Md_init_54 : decode b_Md_init 54 = .ok (.bipush 8, 2) := by decide +kernel
theorem d_Md_init_56 : decode b_Md_init 56 = .ok (.newarray .int, 2) := by decide +kernel
theorem d_Md_init_58 : decode b_Md_init 58 = .ok (.putfield 30, 3) := by decide +kernel
theorem d_Md_init_61 : decode b_Md_init 61 = .ok (.aload_n 0, 1) := by decide +kernel
theorem d_Md_init_62 : decode b_Md_init 62 = .ok (.bipush 80, 2) := by decide +kernel
theorem d_Md_init_64 : decode b_Md_init 64 = .ok (.newarray .int, 2) := by decide +kernel
theorem d_Md_init_66 : decode b_Md_init 66 = .ok (.putfield 33, 3) := by decide +kernel
theorem d_Md_init_69 : decode b_Md_init 69 = .ok (.aload_n 0, 1) := by decide +kernel
theorem d_Md_init_70 : decode b_Md_init 70 = .ok (.bipush 80, 2) := by decide +kernel
theorem d_Md_init_72 : decode b_Md_init 72 = .ok (.newarray .int, 2) := by decide +kernel
theorem d_Md_init_74 : decode b_Md_init 74 = .ok (.putfield 36, 3) := by decide +kernel
theorem d_Md_init_77 : decode b_Md_init 77 = .ok (.aload_n 0, 1) := by decide +kernel
theorem d_Md_init_78 : decode b_Md_init 78 = .ok (.sipush 600, 3) := by decide +kernel
theorem d_Md_init_81 : decode b_Md_init 81 = .ok (.newarray .int, 2) := by decide +kernel
theorem d_Md_init_83 : decode b_Md_init 83 = .ok (.putfield 39, 3) := by decide +kernel
theorem d_Md_init_86 : decode b_Md_init 86 = .ok (.aload_n 0, 1) := by decide +kernel
theorem d_Md_init_87 : decode b_Md_init 87 = .ok (.bipush 20, 2) := by decide +kernel
theorem d_Md_init_89 : decode b_Md_init 89 = .ok (.newarray .int, 2) := by decide +kernel
theorem d_Md_init_91 : decode b_Md_init 91 = .ok (.putfield 42, 3) := by decide +kernel
theorem d_Md_init_94 : decode b_Md_init 94 = .ok (.aload_n 0, 1) := by decide +kernel
theorem d_Md_init_95 : decode b_Md_init 95 = .ok (.bipush 21, 2) := by decide +kernel
theorem d_Md_init_97 : decode b_Md_init 97 = .ok (.newarray .int, 2) := by decide +kernel
theorem d_Md_init_99 : decode b_Md_init 99 = .ok (.putfield 45, 3) := by decide +kernel
theorem d_Md_init_102 : decode b_Md_init 102 = .ok (.aload_n 0, 1) := by decide +kernel
theorem d_Md_init_103 : decode b_Md_init 103 = .ok (.sipush 600, 3) := by decide +kernel
theorem d_Md_init_106 : decode b_Md_init 106 = .ok (.newarray .int, 2) := by decide +kernel
theorem d_Md_init_108 : decode b_Md_init 108 = .ok (.putfield 48, 3) := by decide +kernel
theorem d_Md_init_111 : decode b_Md_init 111 = .ok (.aload_n 0, 1) := by decide +kernel
theorem d_Md_init_112 : decode b_Md_init 112 = .ok (.bipush 20, 2) := by decide +kernel
theorem d_Md_init_114 : decode b_Md_init 114 = .ok (.newarray .int, 2) := by decide +kernel
theorem d_Md_init_116 : decode b_Md_init 116 = .ok (.putfield 51, 3) := by decide +kernel
theorem d_Md_init_119 : decode b_Md_init 119 = .ok (.aload_n 0, 1) := by decide +kernel
theorem d_Md_init_120 : decode b_Md_init 120 = .ok (.bipush 21, 2) := by decide +kernel
theorem d_Md_init_122 : decode b_Md_init 122 = .ok (.newarray .int, 2) := by decide +kernel
theorem d_Md_init_124 : decode b_Md_init 124 = .ok (.putfield 54, 3) := by decide +kernel
theorem d_Md_init_127 : decode b_Md_init 127 = .ok (.aload_n 0, 1) := by decide +kernel
theorem d_Md_init_128 : decode b_Md_init 128 = .ok (.sipush 600, 3) := by decide +kernel
theorem d_Md_init_131 : decode b_Md_init 131 = .ok (.newarray .int, 2) := by decide +kernel
theorem d_Md_init_133 : decode b_Md_init 133 = .ok (.putfield 57, 3) := by decide +kernel
theorem d_Md_init_136 : decode b_Md_init 136 = .ok (.aload_n 0, 1) := by decide +kernel
theorem d_Md_init_137 : decode b_Md_init 137 = .ok (.bipush 8, 2) := by decide +kernel
theorem d_Md_init_139 : decode b_Md_init 139 = .ok (.newarray .int, 2) := by decide +kernel
theorem d_Md_init_141 : decode b_Md_init 141 = .ok (.putfield 60, 3) := by decide +kernel
theorem d_Md_init_144 : decode b_Md_init 144 = .ok (.aload_n 0, 1) := by decide +kernel
theorem d_Md_init_145 : decode b_Md_init 145 = .ok (.bipush 8, 2) := by decide +kernel
theorem d_Md_init_147 : decode b_Md_init 147 = .ok (.newarray .int, 2) := by decide +kernel
theorem d_Md_init_149 : decode b_Md_init 149 = .ok (.putfield 63, 3) := by decide +kernel
theorem d_Md_init_152 : decode b_Md_init 152 = .ok (.aload_n 0, 1) := by decide +kernel
theorem d_Md_init_153 : decode b_Md_init 153 = .ok (.bipush 6, 2) := by decide +kernel
theorem d_Md_init_155 : decode b_Md_init 155 = .ok (.newarray .int, 2) := by decide +kernel
theorem d_Md_init_157 : decode b_Md_init 157 = .ok (.putfield 66, 3) := by decide +kernel
theorem d_Md_init_160 : decode b_Md_init 160 = .ok (.aload_n 0, 1) := by decide +kernel
theorem d_Md_init_161 : decode b_Md_init 161 = .ok (.bipush 6, 2) := by decide +kernel
theorem d_Md_init_163 : decode b_Md_init 163 = .ok (.newarray .int, 2) := by decide +kernel
theorem d_Md_init_165 : decode b_Md_init 165 = .ok (.putfield 69, 3) := by decide +kernel
theorem d_Md_init_168 : decode b_Md_init 168 = .ok (.iconst 0, 1) := by decide +kernel
theorem d_Md_init_169 : decode b_Md_init 169 = .ok (.istore_n 1, 1) := by decide +kernel
theorem d_Md_init_170 : decode b_Md_init 170 = .ok (.iload_n 1, 1) := by decide +kernel
theorem d_Md_init_171 : decode b_Md_init 171 = .ok (.bipush 8, 2) := by decide +kernel
theorem d_Md_init_173 : decode b_Md_init 173 = .ok (.if_icmp .ge 16, 3) := by decide +kernel
theorem d_Md_init_176 : decode b_Md_init 176 = .ok (.aload_n 0, 1) := by decide +kernel
theorem d_Md_init_177 : decode b_Md_init 177 = .ok (.getfield 60, 3) := by decide +kernel
theorem d_Md_init_180 : decode b_Md_init 180 = .ok (.iload_n 1, 1) := by decide +kernel
theorem d_Md_init_181 : decode b_Md_init 181 = .ok (.iconst (-1), 1) := by decide +kernel
theorem d_Md_init_182 : decode b_Md_init 182 = .ok (.iastore, 1) := by decide +kernel
theorem d_Md_init_183 : decode b_Md_init 183 = .ok (.iinc 1 1, 3) := by decide +kernel
theorem d_Md_init_186 : decode b_Md_init 186 = .ok (.goto (-16), 3) := by decide +kernel
theorem d_Md_init_189 : decode b_Md_init 189 = .ok (.return_, 1) := by decide +kernel
theorem d_Md_cell_0 : decode b_Md_cell 0 = .ok (.aload_n 0, 1) := by decide +kernel
theorem d_Md_cell_1 : decode b_Md_cell 1 = .ok (.getfield 72, 3) := by decide +kernel
theorem d_Md_cell_4 : decode b_Md_cell 4 = .ok (.bipush 8, 2) := by decide +kernel
theorem d_Md_cell_6 : decode b_Md_cell 6 = .ok (.if_icmp .ne 5, 3) := by decide +kernel
theorem d_Md_cell_9 : decode b_Md_cell 9 = .ok (.iconst (-1), 1) := by decide +kernel
theorem d_Md_cell_10 : decode b_Md_cell 10 = .ok (.ireturn, 1) := by decide +kernel
theorem d_Md_cell_11 : decode b_Md_cell 11 = .ok (.aload_n 0, 1) := by decide +kernel
theorem d_Md_cell_12 : decode b_Md_cell 12 = .ok (.dup, 1) := by decide +kernel
theorem d_Md_cell_13 : decode b_Md_cell 13 = .ok (.getfield 72, 3) := by decide +kernel
theorem d_Md_cell_16 : decode b_Md_cell 16 = .ok (.iconst 1, 1) := by decide +kernel
theorem d_Md_cell_17 : decode b_Md_cell 17 = .ok (.iadd, 1) := by decide +kernel
theorem d_Md_cell_18 : decode b_Md_cell 18 = .ok (.putfield 72, 3) := by decide +kernel
theorem d_Md_cell_21 : decode b_Md_cell 21 = .ok (.aload_n 0, 1) := by decide +kernel
theorem d_Md_cell_22 : decode b_Md_cell 22 = .ok (.getfield 72, 3) := by decide +kernel
theorem d_Md_cell_25 : decode b_Md_cell 25 = .ok (.iconst 1, 1) := by decide +kernel
theorem d_Md_cell_26 : decode b_Md_cell 26 = .ok (.isub, 1) := by decide +kernel
theorem d_Md_cell_27 : decode b_Md_cell 27 = .ok (.ireturn, 1) := by decide +kernel
theorem d_Md_span_0 : decode b_Md_span 0 = .ok (.iload_n 1, 1) := by decide +kernel
theorem d_Md_span_1 : decode b_Md_span 1 = .ok (.i2l, 1) := by decide +kernel
theorem d_Md_span_2 : decode b_Md_span 2 = .ok (.lconst 0, 1) := by decide +kernel
theorem d_Md_span_3 : decode b_Md_span 3 = .ok (.ldc2_w 75, 3) := by decide +kernel
theorem d_Md_span_6 : decode b_Md_span 6 = .ok (.invokestatic 77, 3) := by decide +kernel
theorem d_Md_span_9 : decode b_Md_span 9 = .ok (.ifCond .eq 20, 3) := by decide +kernel
theorem d_Md_span_12 : decode b_Md_span 12 = .ok (.iload_n 2, 1) := by decide +kernel
theorem d_Md_span_13 : decode b_Md_span 13 = .ok (.i2l, 1) := by decide +kernel
theorem d_Md_span_14 : decode b_Md_span 14 = .ok (.lconst 0, 1) := by decide +kernel
theorem d_Md_span_15 : decode b_Md_span 15 = .ok (.ldc2_w 75, 3) := by decide +kernel
theorem d_Md_span_18 : decode b_Md_span 18 = .ok (.invokestatic 77, 3) := by decide +kernel
theorem d_Md_span_21 : decode b_Md_span 21 = .ok (.ifCond .eq 8, 3) := by decide +kernel
theorem d_Md_span_24 : decode b_Md_span 24 = .ok (.iload_n 1, 1) := by decide +kernel
theorem d_Md_span_25 : decode b_Md_span 25 = .ok (.iload_n 2, 1) := by decide +kernel
theorem d_Md_span_26 : decode b_Md_span 26 = .ok (.if_icmp .le 5, 3) := by decide +kernel
theorem d_Md_span_29 : decode b_Md_span 29 = .ok (.iconst 0, 1) := by decide +kernel
theorem d_Md_span_30 : decode b_Md_span 30 = .ok (.ireturn, 1) := by decide +kernel
theorem d_Md_span_31 : decode b_Md_span 31 = .ok (.aload_n 0, 1) := by decide +kernel
theorem d_Md_span_32 : decode b_Md_span 32 = .ok (.iload_n 1, 1) := by decide +kernel
theorem d_Md_span_33 : decode b_Md_span 33 = .ok (.putfield 81, 3) := by decide +kernel
theorem d_Md_span_36 : decode b_Md_span 36 = .ok (.aload_n 0, 1) := by decide +kernel
theorem d_Md_span_37 : decode b_Md_span 37 = .ok (.iload_n 2, 1) := by decide +kernel
theorem d_Md_span_38 : decode b_Md_span 38 = .ok (.putfield 14, 3) := by decide +kernel
theorem d_Md_span_41 : decode b_Md_span 41 = .ok (.iconst 1, 1) := by decide +kernel
theorem d_Md_span_42 : decode b_Md_span 42 = .ok (.ireturn, 1) := by decide +kernel
theorem d_Md_isIn_0 : decode b_Md_isIn 0 = .ok (.lload_n 0, 1) := by decide +kernel
theorem d_Md_isIn_1 : decode b_Md_isIn 1 = .ok (.lload_n 2, 1) := by decide +kernel
theorem d_Md_isIn_2 : decode b_Md_isIn 2 = .ok (.lcmp, 1) := by decide +kernel
theorem d_Md_isIn_3 : decode b_Md_isIn 3 = .ok (.ifCond .lt 14, 3) := by decide +kernel
theorem d_Md_isIn_6 : decode b_Md_isIn 6 = .ok (.lload_n 0, 1) := by decide +kernel
theorem d_Md_isIn_7 : decode b_Md_isIn 7 = .ok (.lload 4, 2) := by decide +kernel
theorem d_Md_isIn_9 : decode b_Md_isIn 9 = .ok (.lcmp, 1) := by decide +kernel
theorem d_Md_isIn_10 : decode b_Md_isIn 10 = .ok (.ifCond .gt 7, 3) := by decide +kernel
theorem d_Md_isIn_13 : decode b_Md_isIn 13 = .ok (.iconst 1, 1) := by decide +kernel
theorem d_Md_isIn_14 : decode b_Md_isIn 14 = .ok (.goto 4, 3) := by decide +kernel
theorem d_Md_isIn_17 : decode b_Md_isIn 17 = .ok (.iconst 0, 1) := by decide +kernel
theorem d_Md_isIn_18 : decode b_Md_isIn 18 = .ok (.ireturn, 1) := by decide +kernel
theorem d_Md_warm_0 : decode b_Md_warm 0 = .ok (.aload_n 0, 1) := by decide +kernel
theorem d_Md_warm_1 : decode b_Md_warm 1 = .ok (.iload_n 1, 1) := by decide +kernel
theorem d_Md_warm_2 : decode b_Md_warm 2 = .ok (.invokevirtual 84, 3) := by decide +kernel
theorem d_Md_warm_5 : decode b_Md_warm 5 = .ok (.ifCond .eq 15, 3) := by decide +kernel
theorem d_Md_warm_8 : decode b_Md_warm 8 = .ok (.iload_n 2, 1) := by decide +kernel
theorem d_Md_warm_9 : decode b_Md_warm 9 = .ok (.i2l, 1) := by decide +kernel
theorem d_Md_warm_10 : decode b_Md_warm 10 = .ok (.lconst 0, 1) := by decide +kernel
theorem d_Md_warm_11 : decode b_Md_warm 11 = .ok (.ldc2_w 75, 3) := by decide +kernel
theorem d_Md_warm_14 : decode b_Md_warm 14 = .ok (.invokestatic 77, 3) := by decide +kernel
theorem d_Md_warm_17 : decode b_Md_warm 17 = .ok (.ifCond .ne 5, 3) := by decide +kernel
theorem d_Md_warm_20 : decode b_Md_warm 20 = .ok (.iconst 0, 1) := by decide +kernel
theorem d_Md_warm_21 : decode b_Md_warm 21 = .ok (.ireturn, 1) := by decide +kernel
theorem d_Md_warm_22 : decode b_Md_warm 22 = .ok (.aload_n 0, 1) := by decide +kernel
theorem d_Md_warm_23 : decode b_Md_warm 23 = .ok (.getfield 7, 3) := by decide +kernel
theorem d_Md_warm_26 : decode b_Md_warm 26 = .ok (.iload_n 1, 1) := by decide +kernel
theorem d_Md_warm_27 : decode b_Md_warm 27 = .ok (.iload_n 2, 1) := by decide +kernel
theorem d_Md_warm_28 : decode b_Md_warm 28 = .ok (.iastore, 1) := by decide +kernel
theorem d_Md_warm_29 : decode b_Md_warm 29 = .ok (.aload_n 0, 1) := by decide +kernel
theorem d_Md_warm_30 : decode b_Md_warm 30 = .ok (.iload_n 1, 1) := by decide +kernel
theorem d_Md_warm_31 : decode b_Md_warm 31 = .ok (.invokevirtual 88, 3) := by decide +kernel
theorem d_Md_warm_34 : decode b_Md_warm 34 = .ok (.ireturn, 1) := by decide +kernel
theorem d_Md_isCell_0 : decode b_Md_isCell 0 = .ok (.iload_n 1, 1) := by decide +kernel
theorem d_Md_isCell_1 : decode b_Md_isCell 1 = .ok (.ifCond .lt 15, 3) := by decide +kernel
theorem d_Md_isCell_4 : decode b_Md_isCell 4 = .ok (.iload_n 1, 1) := by decide +kernel
theorem d_Md_isCell_5 : decode b_Md_isCell 5 = .ok (.aload_n 0, 1) := by decide +kernel
theorem d_Md_isCell_6 : decode b_Md_isCell 6 = .ok (.getfield 72, 3) := by decide +kernel
theorem d_Md_isCell_9 : decode b_Md_isCell 9 = .ok (.if_icmp .ge 7, 3) := by decide +kernel
theorem d_Md_isCell_12 : decode b_Md_isCell 12 = .ok (.iconst 1, 1) := by decide +kernel
theorem d_Md_isCell_13 : decode b_Md_isCell 13 = .ok (.goto 4, 3) := by decide +kernel
theorem d_Md_isCell_16 : decode b_Md_isCell 16 = .ok (.iconst 0, 1) := by decide +kernel
theorem d_Md_isCell_17 : decode b_Md_isCell 17 = .ok (.ireturn, 1) := by decide +kernel
theorem d_Md_isInSpan_0 : decode b_Md_isInSpan 0 = .ok (.aload_n 0, 1) := by decide +kernel
theorem d_Md_isInSpan_1 : decode b_Md_isInSpan 1 = .ok (.getfield 7, 3) := by decide +kernel
theorem d_Md_isInSpan_4 : decode b_Md_isInSpan 4 = .ok (.iload_n 1, 1) := by decide +kernel
theorem d_Md_isInSpan_5 : decode b_Md_isInSpan 5 = .ok (.iaload, 1) := by decide +kernel
theorem d_Md_isInSpan_6 : decode b_Md_isInSpan 6 = .ok (.aload_n 0, 1) := by decide +kernel
theorem d_Md_isInSpan_7 : decode b_Md_isInSpan 7 = .ok (.getfield 81, 3) := by decide +kernel
theorem d_Md_isInSpan_10 : decode b_Md_isInSpan 10 = .ok (.if_icmp .lt 20, 3) := by decide +kernel
theorem d_Md_isInSpan_13 : decode b_Md_isInSpan 13 = .ok (.aload_n 0, 1) := by decide +kernel
theorem d_Md_isInSpan_14 : decode b_Md_isInSpan 14 = .ok (.getfield 7, 3) := by decide +kernel
theorem d_Md_isInSpan_17 : decode b_Md_isInSpan 17 = .ok (.iload_n 1, 1) := by decide +kernel
theorem d_Md_isInSpan_18 : decode b_Md_isInSpan 18 = .ok (.iaload, 1) := by decide +kernel
theorem d_Md_isInSpan_19 : decode b_Md_isInSpan 19 = .ok (.aload_n 0, 1) := by decide +kernel
theorem d_Md_isInSpan_20 : decode b_Md_isInSpan 20 = .ok (.getfield 14, 3) := by decide +kernel
theorem d_Md_isInSpan_23 : decode b_Md_isInSpan 23 = .ok (.if_icmp .gt 7, 3) := by decide +kernel
theorem d_Md_isInSpan_26 : decode b_Md_isInSpan 26 = .ok (.iconst 1, 1) := by decide +kernel
theorem d_Md_isInSpan_27 : decode b_Md_isInSpan 27 = .ok (.goto 4, 3) := by decide +kernel
theorem d_Md_isInSpan_30 : decode b_Md_isInSpan 30 = .ok (.iconst 0, 1) := by decide +kernel
theorem d_Md_isInSpan_31 : decode b_Md_isInSpan 31 = .ok (.ireturn, 1) := by decide +kernel
theorem d_Md_step_0 : decode b_Md_step 0 = .ok (.aload_n 0, 1) := by decide +kernel
theorem d_Md_step_1 : decode b_Md_step 1 = .ok (.iload_n 1, 1) := by decide +kernel
theorem d_Md_step_2 : decode b_Md_step 2 = .ok (.invokevirtual 84, 3) := by decide +kernel
theorem d_Md_step_5 : decode b_Md_step 5 = .ok (.ifCond .eq 61, 3) := by decide +kernel
theorem d_Md_step_8 : decode b_Md_step 8 = .ok (.aload_n 0, 1) := by decide +kernel
theorem d_Md_step_9 : decode b_Md_step 9 = .ok (.getfield 18, 3) := by decide +kernel
theorem d_Md_step_12 : decode b_Md_step 12 = .ok (.iload_n 1, 1) := by decide +kernel
theorem d_Md_step_13 : decode b_Md_step 13 = .ok (.iaload, 1) := by decide +kernel
theorem d_Md_step_14 : decode b_Md_step 14 = .ok (.bipush 30, 2) := by decide +kernel
theorem d_Md_step_16 : decode b_Md_step 16 = .ok (.if_icmp .eq 50, 3) := by decide +kernel
theorem d_Md_step_19 : decode b_Md_step 19 = .ok (.iload_n 2, 1) := by decide +kernel
theorem d_Md_step_20 : decode b_Md_step 20 = .ok (.i2l, 1) := by decide +kernel
theorem d_Md_step_21 : decode b_Md_step 21 = .ok (.lconst 1, 1) := by decide +kernel
theorem d_Md_step_22 : decode b_Md_step 22 = .ok (.ldc2_w 91, 3) := by decide +kernel
theorem d_Md_step_25 : decode b_Md_step 25 = .ok (.invokestatic 77, 3) := by decide +kernel
theorem d_Md_step_28 : decode b_Md_step 28 = .ok (.ifCond .eq 38, 3) := by decide +kernel
theorem d_Md_step_31 : decode b_Md_step 31 = .ok (.iload_n 3, 1) := by decide +kernel
theorem d_Md_step_32 : decode b_Md_step 32 = .ok (.i2l, 1) := by decide +kernel
theorem d_Md_step_33 : decode b_Md_step 33 = .ok (.ldc2_w 93, 3) := by decide +kernel
theorem d_Md_step_36 : decode b_Md_step 36 = .ok (.ldc2_w 91, 3) := by decide +kernel
theorem d_Md_step_39 : decode b_Md_step 39 = .ok (.invokestatic 77, 3) := by decide +kernel
theorem d_Md_step_42 : decode b_Md_step 42 = .ok (.ifCond .eq 24, 3) := by decide +kernel
theorem d_Md_step_45 : decode b_Md_step 45 = .ok (.iload 4, 2) := by decide +kernel
theorem d_Md_step_47 : decode b_Md_step 47 = .ok (.i2l, 1) := by decide +kernel
theorem d_Md_step_48 : decode b_Md_step 48 = .ok (.lconst 0, 1) := by decide +kernel
theorem d_Md_step_49 : decode b_Md_step 49 = .ok (.ldc2_w 95, 3) := by decide +kernel
theorem d_Md_step_52 : decode b_Md_step 52 = .ok (.invokestatic 77, 3) := by decide +kernel
theorem d_Md_step_55 : decode b_Md_step 55 = .ok (.ifCond .eq 11, 3) := by decide +kernel
theorem d_Md_step_58 : decode b_Md_step 58 = .ok (.aload_n 0, 1) := by decide +kernel
theorem d_Md_step_59 : decode b_Md_step 59 = .ok (.iload_n 1, 1) := by decide +kernel
theorem d_Md_step_60 : decode b_Md_step 60 = .ok (.invokevirtual 88, 3) := by decide +kernel
theorem d_Md_step_63 : decode b_Md_step 63 = .ok (.ifCond .ne 5, 3) := by decide +kernel
theorem d_Md_step_66 : decode b_Md_step 66 = .ok (.iconst 0, 1) := by decide +kernel
theorem d_Md_step_67 : decode b_Md_step 67 = .ok (.ireturn, 1) := by decide +kernel
theorem d_Md_step_68 : decode b_Md_step 68 = .ok (.bipush 30, 2) := by decide +kernel
theorem d_Md_step_70 : decode b_Md_step 70 = .ok (.iload_n 1, 1) := by decide +kernel
theorem d_Md_step_71 : decode b_Md_step 71 = .ok (.imul, 1) := by decide +kernel
theorem d_Md_step_72 : decode b_Md_step 72 = .ok (.aload_n 0, 1) := by decide +kernel
theorem d_Md_step_73 : decode b_Md_step 73 = .ok (.getfield 18, 3) := by decide +kernel
theorem d_Md_step_76 : decode b_Md_step 76 = .ok (.iload_n 1, 1) := by decide +kernel
theorem d_Md_step_77 : decode b_Md_step 77 = .ok (.iaload, 1) := by decide +kernel
theorem d_Md_step_78 : decode b_Md_step 78 = .ok (.iadd, 1) := by decide +kernel
theorem d_Md_step_79 : decode b_Md_step 79 = .ok (.istore 5, 2) := by decide +kernel
theorem d_Md_step_81 : decode b_Md_step 81 = .ok (.aload_n 0, 1) := by decide +kernel
theorem d_Md_step_82 : decode b_Md_step 82 = .ok (.getfield 21, 3) := by decide +kernel
theorem d_Md_step_85 : decode b_Md_step 85 = .ok (.iload 5, 2) := by decide +kernel
theorem d_Md_step_87 : decode b_Md_step 87 = .ok (.iload_n 2, 1) := by decide +kernel
theorem d_Md_step_88 : decode b_Md_step 88 = .ok (.iastore, 1) := by decide +kernel
theorem d_Md_step_89 : decode b_Md_step 89 = .ok (.aload_n 0, 1) := by decide +kernel
theorem d_Md_step_90 : decode b_Md_step 90 = .ok (.getfield 24, 3) := by decide +kernel
theorem d_Md_step_93 : decode b_Md_step 93 = .ok (.iload 5, 2) := by decide +kernel
theorem d_Md_step_95 : decode b_Md_step 95 = .ok (.iload_n 3, 1) := by decide +kernel
theorem d_Md_step_96 : decode b_Md_step 96 = .ok (.iastore, 1) := by decide +kernel
theorem d_Md_step_97 : decode b_Md_step 97 = .ok (.aload_n 0, 1) := by decide +kernel
theorem d_Md_step_98 : decode b_Md_step 98 = .ok (.getfield 27, 3) := by decide +kernel
theorem d_Md_step_101 : decode b_Md_step 101 = .ok (.iload 5, 2) := by decide +kernel
theorem d_Md_step_103 : decode b_Md_step 103 = .ok (.iload 4, 2) := by decide +kernel
theorem d_Md_step_105 : decode b_Md_step 105 = .ok (.iastore, 1) := by decide +kernel
theorem d_Md_step_106 : decode b_Md_step 106 = .ok (.aload_n 0, 1) := by decide +kernel
theorem d_Md_step_107 : decode b_Md_step 107 = .ok (.getfield 18, 3) := by decide +kernel
theorem d_Md_step_110 : decode b_Md_step 110 = .ok (.iload_n 1, 1) := by decide +kernel
theorem d_Md_step_111 : decode b_Md_step 111 = .ok (.dup2, 1) := by decide +kernel
theorem d_Md_step_112 : decode b_Md_step 112 = .ok (.iaload, 1) := by decide +kernel
theorem d_Md_step_113 : decode b_Md_step 113 = .ok (.iconst 1, 1) := by decide +kernel
theorem d_Md_step_114 : decode b_Md_step 114 = .ok (.iadd, 1) := by decide +kernel
theorem d_Md_step_115 : decode b_Md_step 115 = .ok (.iastore, 1) := by decide +kernel
theorem d_Md_step_116 : decode b_Md_step 116 = .ok (.iconst 1, 1) := by decide +kernel
theorem d_Md_step_117 : decode b_Md_step 117 = .ok (.ireturn, 1) := by decide +kernel
theorem d_Md_rest_0 : decode b_Md_rest 0 = .ok (.aload_n 0, 1) := by decide +kernel
theorem d_Md_rest_1 : decode b_Md_rest 1 = .ok (.iload_n 1, 1) := by decide +kernel
theorem d_Md_rest_2 : decode b_Md_rest 2 = .ok (.invokevirtual 84, 3) := by decide +kernel
theorem d_Md_rest_5 : decode b_Md_rest 5 = .ok (.ifCond .eq 38, 3) := by decide +kernel
theorem d_Md_rest_8 : decode b_Md_rest 8 = .ok (.aload_n 0, 1) := by decide +kernel
theorem d_Md_rest_9 : decode b_Md_rest 9 = .ok (.getfield 30, 3) := by decide +kernel
theorem d_Md_rest_12 : decode b_Md_rest 12 = .ok (.iload_n 1, 1) := by decide +kernel
theorem d_Md_rest_13 : decode b_Md_rest 13 = .ok (.iaload, 1) := by decide +kernel
theorem d_Md_rest_14 : decode b_Md_rest 14 = .ok (.bipush 10, 2) := by decide +kernel
theorem d_Md_rest_16 : decode b_Md_rest 16 = .ok (.if_icmp .eq 27, 3) := by decide +kernel
theorem d_Md_rest_19 : decode b_Md_rest 19 = .ok (.iload_n 2, 1) := by decide +kernel
theorem d_Md_rest_20 : decode b_Md_rest 20 = .ok (.i2l, 1) := by decide +kernel
theorem d_Md_rest_21 : decode b_Md_rest 21 = .ok (.lconst 0, 1) := by decide +kernel
theorem d_Md_rest_22 : decode b_Md_rest 22 = .ok (.ldc2_w 91, 3) := by decide +kernel
theorem d_Md_rest_25 : decode b_Md_rest 25 = .ok (.invokestatic 77, 3) := by decide +kernel
theorem d_Md_rest_28 : decode b_Md_rest 28 = .ok (.ifCond .eq 15, 3) := by decide +kernel
theorem d_Md_rest_31 : decode b_Md_rest 31 = .ok (.iload_n 3, 1) := by decide +kernel
theorem d_Md_rest_32 : decode b_Md_rest 32 = .ok (.i2l, 1) := by decide +kernel
theorem d_Md_rest_33 : decode b_Md_rest 33 = .ok (.lconst 0, 1) := by decide +kernel
theorem d_Md_rest_34 : decode b_Md_rest 34 = .ok (.ldc2_w 95, 3) := by decide +kernel
theorem d_Md_rest_37 : decode b_Md_rest 37 = .ok (.invokestatic 77, 3) := by decide +kernel
theorem d_Md_rest_40 : decode b_Md_rest 40 = .ok (.ifCond .ne 5, 3) := by decide +kernel
theorem d_Md_rest_43 : decode b_Md_rest 43 = .ok (.iconst 0, 1) := by decide +kernel
theorem d_Md_rest_44 : decode b_Md_rest 44 = .ok (.ireturn, 1) := by decide +kernel
theorem d_Md_rest_45 : decode b_Md_rest 45 = .ok (.bipush 10, 2) := by decide +kernel
theorem d_Md_rest_47 : decode b_Md_rest 47 = .ok (.iload_n 1, 1) := by decide +kernel
theorem d_Md_rest_48 : decode b_Md_rest 48 = .ok (.imul, 1) := by decide +kernel
theorem d_Md_rest_49 : decode b_Md_rest 49 = .ok (.aload_n 0, 1) := by decide +kernel
theorem d_Md_rest_50 : decode b_Md_rest 50 = .ok (.getfield 30, 3) := by decide +kernel
theorem d_Md_rest_53 : decode b_Md_rest 53 = .ok (.iload_n 1, 1) := by decide +kernel
theorem d_Md_rest_54 : decode b_Md_rest 54 = .ok (.iaload, 1) := by decide +kernel
theorem d_Md_rest_55 : decode b_Md_rest 55 = .ok (.iadd, 1) := by decide +kernel
theorem d_Md_rest_56 : decode b_Md_rest 56 = .ok (.istore 4, 2) := by decide +kernel
theorem d_Md_rest_58 : decode b_Md_rest 58 = .ok (.aload_n 0, 1) := by decide +kernel
theorem d_Md_rest_59 : decode b_Md_rest 59 = .ok (.getfield 30, 3) := by decide +kernel
theorem d_Md_rest_62 : decode b_Md_rest 62 = .ok (.iload_n 1, 1) := by decide +kernel
theorem d_Md_rest_63 : decode b_Md_rest 63 = .ok (.iaload, 1) := by decide +kernel
theorem d_Md_rest_64 : decode b_Md_rest 64 = .ok (.ifCond .le 18, 3) := by decide +kernel
theorem d_Md_rest_67 : decode b_Md_rest 67 = .ok (.iload_n 2, 1) := by decide +kernel
theorem d_Md_rest_68 : decode b_Md_rest 68 = .ok (.aload_n 0, 1) := by decide +kernel
theorem d_Md_rest_69 : decode b_Md_rest 69 = .ok (.getfield 33, 3) := by decide +kernel
theorem d_Md_rest_72 : decode b_Md_rest 72 = .ok (.iload 4, 2) := by decide +kernel
theorem d_Md_rest_74 : decode b_Md_rest 74 = .ok (.iconst 1, 1) := by decide +kernel
theorem d_Md_rest_75 : decode b_Md_rest 75 = .ok (.isub, 1) := by decide +kernel
theorem d_Md_rest_76 : decode b_Md_rest 76 = .ok (.iaload, 1) := by decide +kernel
theorem d_Md_rest_77 : decode b_Md_rest 77 = .ok (.if_icmp .gt 5, 3) := by decide +kernel
theorem d_Md_rest_80 : decode b_Md_rest 80 = .ok (.iconst 0, 1) := by decide +kernel
theorem d_Md_rest_81 : decode b_Md_rest 81 = .ok (.ireturn, 1) := by decide +kernel
theorem d_Md_rest_82 : decode b_Md_rest 82 = .ok (.aload_n 0, 1) := by decide +kernel
theorem d_Md_rest_83 : decode b_Md_rest 83 = .ok (.getfield 33, 3) := by decide +kernel
theorem d_Md_rest_86 : decode b_Md_rest 86 = .ok (.iload 4, 2) := by decide +kernel
theorem d_Md_rest_88 : decode b_Md_rest 88 = .ok (.iload_n 2, 1) := by decide +kernel
theorem d_Md_rest_89 : decode b_Md_rest 89 = .ok (.iastore, 1) := by decide +kernel
theorem d_Md_rest_90 : decode b_Md_rest 90 = .ok (.aload_n 0, 1) := by decide +kernel
theorem d_Md_rest_91 : decode b_Md_rest 91 = .ok (.getfield 36, 3) := by decide +kernel
theorem d_Md_rest_94 : decode b_Md_rest 94 = .ok (.iload 4, 2) := by decide +kernel
theorem d_Md_rest_96 : decode b_Md_rest 96 = .ok (.iload_n 3, 1) := by decide +kernel
theorem d_Md_rest_97 : decode b_Md_rest 97 = .ok (.iastore, 1) := by decide +kernel
theorem d_Md_rest_98 : decode b_Md_rest 98 = .ok (.aload_n 0, 1) := by decide +kernel
theorem d_Md_rest_99 : decode b_Md_rest 99 = .ok (.getfield 30, 3) := by decide +kernel
theorem d_Md_rest_102 : decode b_Md_rest 102 = .ok (.iload_n 1, 1) := by decide +kernel
theorem d_Md_rest_103 : decode b_Md_rest 103 = .ok (.dup2, 1) := by decide +kernel
theorem d_Md_rest_104 : decode b_Md_rest 104 = .ok (.iaload, 1) := by decide +kernel
theorem d_Md_rest_105 : decode b_Md_rest 105 = .ok (.iconst 1, 1) := by decide +kernel
theorem d_Md_rest_106 : decode b_Md_rest 106 = .ok (.iadd, 1) := by decide +kernel
theorem d_Md_rest_107 : decode b_Md_rest 107 = .ok (.iastore, 1) := by decide +kernel
theorem d_Md_rest_108 : decode b_Md_rest 108 = .ok (.iconst 1, 1) := by decide +kernel
theorem d_Md_rest_109 : decode b_Md_rest 109 = .ok (.ireturn, 1) := by decide +kernel
theorem d_Md_charge_0 : decode b_Md_charge 0 = .ok (.aload_n 0, 1) := by decide +kernel
theorem d_Md_charge_1 : decode b_Md_charge 1 = .ok (.iload_n 1, 1) := by decide +kernel
theorem d_Md_charge_2 : decode b_Md_charge 2 = .ok (.invokevirtual 84, 3) := by decide +kernel
theorem d_Md_charge_5 : decode b_Md_charge 5 = .ok (.ifCond .ne 7, 3) := by decide +kernel
theorem d_Md_charge_8 : decode b_Md_charge 8 = .ok (.ldc2_w 97, 3) := by decide +kernel
theorem d_Md_charge_11 : decode b_Md_charge 11 = .ok (.lreturn, 1) := by decide +kernel
theorem d_Md_charge_12 : decode b_Md_charge 12 = .ok (.lconst 0, 1) := by decide +kernel
theorem d_Md_charge_13 : decode b_Md_charge 13 = .ok (.lstore_n 2, 1) := by decide +kernel
theorem d_Md_charge_14 : decode b_Md_charge 14 = .ok (.iconst 0, 1) := by decide +kernel
theorem d_Md_charge_15 : decode b_Md_charge 15 = .ok (.istore 4, 2) := by decide +kernel
theorem d_Md_charge_17 : decode b_Md_charge 17 = .ok (.iload 4, 2) := by decide +kernel
theorem d_Md_charge_19 : decode b_Md_charge 19 = .ok (.aload_n 0, 1) := by decide +kernel
theorem d_Md_charge_20 : decode b_Md_charge 20 = .ok (.getfield 18, 3) := by decide +kernel
theorem d_Md_charge_23 : decode b_Md_charge 23 = .ok (.iload_n 1, 1) := by decide +kernel
theorem d_Md_charge_24 : decode b_Md_charge 24 = .ok (.iaload, 1) := by decide +kernel
theorem d_Md_charge_25 : decode b_Md_charge 25 = .ok (.if_icmp .ge 39, 3) := by decide +kernel
theorem d_Md_charge_28 : decode b_Md_charge 28 = .ok (.lload_n 2, 1) := by decide +kernel
theorem d_Md_charge_29 : decode b_Md_charge 29 = .ok (.aload_n 0, 1) := by decide +kernel
theorem d_Md_charge_30 : decode b_Md_charge 30 = .ok (.getfield 21, 3) := by decide +kernel
theorem d_Md_charge_33 : decode b_Md_charge 33 = .ok (.bipush 30, 2) := by decide +kernel
theorem d_Md_charge_35 : decode b_Md_charge 35 = .ok (.iload_n 1, 1) := by decide +kernel
theorem d_Md_charge_36 : decode b_Md_charge 36 = .ok (.imul, 1) := by decide +kernel
theorem d_Md_charge_37 : decode b_Md_charge 37 = .ok (.iload 4, 2) := by decide +kernel
theorem d_Md_charge_39 : decode b_Md_charge 39 = .ok (.iadd, 1) := by decide +kernel
theorem d_Md_charge_40 : decode b_Md_charge 40 = .ok (.iaload, 1) := by decide +kernel
theorem d_Md_charge_41 : decode b_Md_charge 41 = .ok (.i2l, 1) := by decide +kernel
theorem d_Md_charge_42 : decode b_Md_charge 42 = .ok (.aload_n 0, 1) := by decide +kernel
theorem d_Md_charge_43 : decode b_Md_charge 43 = .ok (.getfield 24, 3) := by decide +kernel
theorem d_Md_charge_46 : decode b_Md_charge 46 = .ok (.bipush 30, 2) := by decide +kernel
theorem d_Md_charge_48 : decode b_Md_charge 48 = .ok (.iload_n 1, 1) := by decide +kernel
theorem d_Md_charge_49 : decode b_Md_charge 49 = .ok (.imul, 1) := by decide +kernel
theorem d_Md_charge_50 : decode b_Md_charge 50 = .ok (.iload 4, 2) := by decide +kernel
theorem d_Md_charge_52 : decode b_Md_charge 52 = .ok (.iadd, 1) := by decide +kernel
theorem d_Md_charge_53 : decode b_Md_charge 53 = .ok (.iaload, 1) := by decide +kernel
theorem d_Md_charge_54 : decode b_Md_charge 54 = .ok (.i2l, 1) := by decide +kernel
theorem d_Md_charge_55 : decode b_Md_charge 55 = .ok (.lmul, 1) := by decide +kernel
theorem d_Md_charge_56 : decode b_Md_charge 56 = .ok (.ladd, 1) := by decide +kernel
theorem d_Md_charge_57 : decode b_Md_charge 57 = .ok (.lstore_n 2, 1) := by decide +kernel
theorem d_Md_charge_58 : decode b_Md_charge 58 = .ok (.iinc 4 1, 3) := by decide +kernel
theorem d_Md_charge_61 : decode b_Md_charge 61 = .ok (.goto (-44), 3) := by decide +kernel
theorem d_Md_charge_64 : decode b_Md_charge 64 = .ok (.lload_n 2, 1) := by decide +kernel
theorem d_Md_charge_65 : decode b_Md_charge 65 = .ok (.ldc2_w 99, 3) := by decide +kernel
theorem d_Md_charge_68 : decode b_Md_charge 68 = .ok (.ldiv, 1) := by decide +kernel
theorem d_Md_charge_69 : decode b_Md_charge 69 = .ok (.lstore 4, 2) := by decide +kernel
theorem d_Md_charge_71 : decode b_Md_charge 71 = .ok (.lload 4, 2) := by decide +kernel
theorem d_Md_charge_73 : decode b_Md_charge 73 = .ok (.ldc2_w 99, 3) := by decide +kernel
theorem d_Md_charge_76 : decode b_Md_charge 76 = .ok (.lmul, 1) := by decide +kernel
theorem d_Md_charge_77 : decode b_Md_charge 77 = .ok (.lload_n 2, 1) := by decide +kernel
theorem d_Md_charge_78 : decode b_Md_charge 78 = .ok (.lcmp, 1) := by decide +kernel
theorem d_Md_charge_79 : decode b_Md_charge 79 = .ok (.ifCond .le 10, 3) := by decide +kernel
theorem d_Md_charge_82 : decode b_Md_charge 82 = .ok (.lload 4, 2) := by decide +kernel
theorem d_Md_charge_84 : decode b_Md_charge 84 = .ok (.lconst 1, 1) := by decide +kernel
theorem d_Md_charge_85 : decode b_Md_charge 85 = .ok (.lsub, 1) := by decide +kernel
theorem d_Md_charge_86 : decode b_Md_charge 86 = .ok (.goto 5, 3) := by decide +kernel
theorem d_Md_charge_89 : decode b_Md_charge 89 = .ok (.lload 4, 2) := by decide +kernel
theorem d_Md_charge_91 : decode b_Md_charge 91 = .ok (.lreturn, 1) := by decide +kernel
theorem d_Md_resistance_0 : decode b_Md_resistance 0 = .ok (.aload_n 0, 1) := by decide +kernel
theorem d_Md_resistance_1 : decode b_Md_resistance 1 = .ok (.iload_n 1, 1) := by decide +kernel
theorem d_Md_resistance_2 : decode b_Md_resistance 2 = .ok (.invokevirtual 84, 3) := by decide +kernel
theorem d_Md_resistance_5 : decode b_Md_resistance 5 = .ok (.ifCond .eq 21, 3) := by decide +kernel
theorem d_Md_resistance_8 : decode b_Md_resistance 8 = .ok (.iload_n 2, 1) := by decide +kernel
theorem d_Md_resistance_9 : decode b_Md_resistance 9 = .ok (.i2l, 1) := by decide +kernel
theorem d_Md_resistance_10 : decode b_Md_resistance 10 = .ok (.lconst 0, 1) := by decide +kernel
theorem d_Md_resistance_11 : decode b_Md_resistance 11 = .ok (.lconst 1, 1) := by decide +kernel
theorem d_Md_resistance_12 : decode b_Md_resistance 12 = .ok (.invokestatic 77, 3) := by decide +kernel
theorem d_Md_resistance_15 : decode b_Md_resistance 15 = .ok (.ifCond .eq 11, 3) := by decide +kernel
theorem d_Md_resistance_18 : decode b_Md_resistance 18 = .ok (.aload_n 0, 1) := by decide +kernel
theorem d_Md_resistance_19 : decode b_Md_resistance 19 = .ok (.iload_n 1, 1) := by decide +kernel
theorem d_Md_resistance_20 : decode b_Md_resistance 20 = .ok (.invokevirtual 105, 3) := by decide +kernel
theorem d_Md_resistance_23 : decode b_Md_resistance 23 = .ok (.ifCond .ge 5, 3) := by decide +kernel
theorem d_Md_resistance_26 : decode b_Md_resistance 26 = .ok (.iconst (-1), 1) := by decide +kernel
theorem d_Md_resistance_27 : decode b_Md_resistance 27 = .ok (.ireturn, 1) := by decide +kernel
theorem d_Md_resistance_28 : decode b_Md_resistance 28 = .ok (.aload_n 0, 1) := by decide +kernel
theorem d_Md_resistance_29 : decode b_Md_resistance 29 = .ok (.iload_n 1, 1) := by decide +kernel
theorem d_Md_resistance_30 : decode b_Md_resistance 30 = .ok (.invokevirtual 105, 3) := by decide +kernel
theorem d_Md_resistance_33 : decode b_Md_resistance 33 = .ok (.istore_n 3, 1) := by decide +kernel
theorem d_Md_resistance_34 : decode b_Md_resistance 34 = .ok (.aload_n 0, 1) := by decide +kernel
theorem d_Md_resistance_35 : decode b_Md_resistance 35 = .ok (.getfield 27, 3) := by decide +kernel
theorem d_Md_resistance_38 : decode b_Md_resistance 38 = .ok (.iload_n 3, 1) := by decide +kernel
theorem d_Md_resistance_39 : decode b_Md_resistance 39 = .ok (.iaload, 1) := by decide +kernel
theorem d_Md_resistance_40 : decode b_Md_resistance 40 = .ok (.aload_n 0, 1) := by decide +kernel
theorem d_Md_resistance_41 : decode b_Md_resistance 41 = .ok (.getfield 27, 3) := by decide +kernel
theorem d_Md_resistance_44 : decode b_Md_resistance 44 = .ok (.iload_n 3, 1) := by decide +kernel
theorem d_Md_resistance_45 : decode b_Md_resistance 45 = .ok (.iconst 1, 1) := by decide +kernel
theorem d_Md_resistance_46 : decode b_Md_resistance 46 = .ok (.isub, 1) := by decide +kernel
theorem d_Md_resistance_47 : decode b_Md_resistance 47 = .ok (.iaload, 1) := by decide +kernel
theorem d_Md_resistance_48 : decode b_Md_resistance 48 = .ok (.isub, 1) := by decide +kernel
theorem d_Md_resistance_49 : decode b_Md_resistance 49 = .ok (.invokestatic 109, 3) := by decide +kernel
theorem d_Md_resistance_52 : decode b_Md_resistance 52 = .ok (.aload_n 0, 1) := by decide +kernel
theorem d_Md_resistance_53 : decode b_Md_resistance 53 = .ok (.getfield 24, 3) := by decide +kernel
theorem d_Md_resistance_56 : decode b_Md_resistance 56 = .ok (.iload_n 3, 1) := by decide +kernel
theorem d_Md_resistance_57 : decode b_Md_resistance 57 = .ok (.iaload, 1) := by decide +kernel
theorem d_Md_resistance_58 : decode b_Md_resistance 58 = .ok (.aload_n 0, 1) := by decide +kernel
theorem d_Md_resistance_59 : decode b_Md_resistance 59 = .ok (.getfield 24, 3) := by decide +kernel
theorem d_Md_resistance_62 : decode b_Md_resistance 62 = .ok (.iload_n 3, 1) := by decide +kernel
theorem d_Md_resistance_63 : decode b_Md_resistance 63 = .ok (.iconst 1, 1) := by decide +kernel
theorem d_Md_resistance_64 : decode b_Md_resistance 64 = .ok (.isub, 1) := by decide +kernel
theorem d_Md_resistance_65 : decode b_Md_resistance 65 = .ok (.iaload, 1) := by decide +kernel
theorem d_Md_resistance_66 : decode b_Md_resistance 66 = .ok (.isub, 1) := by decide +kernel
theorem d_Md_resistance_67 : decode b_Md_resistance 67 = .ok (.invokestatic 109, 3) := by decide +kernel
theorem d_Md_resistance_70 : decode b_Md_resistance 70 = .ok (.iload_n 2, 1) := by decide +kernel
theorem d_Md_resistance_71 : decode b_Md_resistance 71 = .ok (.invokestatic 112, 3) := by decide +kernel
theorem d_Md_resistance_74 : decode b_Md_resistance 74 = .ok (.ireturn, 1) := by decide +kernel
theorem d_Md_turnOf_0 : decode b_Md_turnOf 0 = .ok (.iconst (-1), 1) := by decide +kernel
theorem d_Md_turnOf_1 : decode b_Md_turnOf 1 = .ok (.istore_n 2, 1) := by decide +kernel
theorem d_Md_turnOf_2 : decode b_Md_turnOf 2 = .ok (.bipush 30, 2) := by decide +kernel
theorem d_Md_turnOf_4 : decode b_Md_turnOf 4 = .ok (.iload_n 1, 1) := by decide +kernel
theorem d_Md_turnOf_5 : decode b_Md_turnOf 5 = .ok (.imul, 1) := by decide +kernel
theorem d_Md_turnOf_6 : decode b_Md_turnOf 6 = .ok (.iconst 1, 1) := by decide +kernel
theorem d_Md_turnOf_7 : decode b_Md_turnOf 7 = .ok (.iadd, 1) := by decide +kernel
theorem d_Md_turnOf_8 : decode b_Md_turnOf 8 = .ok (.istore_n 3, 1) := by decide +kernel
theorem d_Md_turnOf_9 : decode b_Md_turnOf 9 = .ok (.iload_n 3, 1) := by decide +kernel
theorem d_Md_turnOf_10 : decode b_Md_turnOf 10 = .ok (.bipush 30, 2) := by decide +kernel
theorem d_Md_turnOf_12 : decode b_Md_turnOf 12 = .ok (.iload_n 1, 1) := by decide +kernel
theorem d_Md_turnOf_13 : decode b_Md_turnOf 13 = .ok (.imul, 1) := by decide +kernel
theorem d_Md_turnOf_14 : decode b_Md_turnOf 14 = .ok (.aload_n 0, 1) := by decide +kernel
theorem d_Md_turnOf_15 : decode b_Md_turnOf 15 = .ok (.getfield 18, 3) := by decide +kernel
theorem d_Md_turnOf_18 : decode b_Md_turnOf 18 = .ok (.iload_n 1, 1) := by decide +kernel
theorem d_Md_turnOf_19 : decode b_Md_turnOf 19 = .ok (.iaload, 1) := by decide +kernel
theorem d_Md_turnOf_20 : decode b_Md_turnOf 20 = .ok (.iadd, 1) := by decide +kernel
theorem d_Md_turnOf_21 : decode b_Md_turnOf 21 = .ok (.if_icmp .ge 32, 3) := by decide +kernel
theorem d_Md_turnOf_24 : decode b_Md_turnOf 24 = .ok (.aload_n 0, 1) := by decide +kernel
theorem d_Md_turnOf_25 : decode b_Md_turnOf 25 = .ok (.getfield 24, 3) := by decide +kernel
theorem d_Md_turnOf_28 : decode b_Md_turnOf 28 = .ok (.iload_n 3, 1) := by decide +kernel
theorem d_Md_turnOf_29 : decode b_Md_turnOf 29 = .ok (.iaload, 1) := by decide +kernel
theorem d_Md_turnOf_30 : decode b_Md_turnOf 30 = .ok (.aload_n 0, 1) := by decide +kernel
theorem d_Md_turnOf_31 : decode b_Md_turnOf 31 = .ok (.getfield 24, 3) := by decide +kernel
theorem d_Md_turnOf_34 : decode b_Md_turnOf 34 = .ok (.iload_n 3, 1) := by decide +kernel
theorem d_Md_turnOf_35 : decode b_Md_turnOf 35 = .ok (.iconst 1, 1) := by decide +kernel
theorem d_Md_turnOf_36 : decode b_Md_turnOf 36 = .ok (.isub, 1) := by decide +kernel
theorem d_Md_turnOf_37 : decode b_Md_turnOf 37 = .ok (.iaload, 1) := by decide +kernel
theorem d_Md_turnOf_38 : decode b_Md_turnOf 38 = .ok (.if_icmp .eq 7, 3) := by decide +kernel
theorem d_Md_turnOf_41 : decode b_Md_turnOf 41 = .ok (.iload_n 3, 1) := by decide +kernel
theorem d_Md_turnOf_42 : decode b_Md_turnOf 42 = .ok (.goto 4, 3) := by decide +kernel
theorem d_Md_turnOf_45 : decode b_Md_turnOf 45 = .ok (.iload_n 2, 1) := by decide +kernel
theorem d_Md_turnOf_46 : decode b_Md_turnOf 46 = .ok (.istore_n 2, 1) := by decide +kernel
theorem d_Md_turnOf_47 : decode b_Md_turnOf 47 = .ok (.iinc 3 1, 3) := by decide +kernel
theorem d_Md_turnOf_50 : decode b_Md_turnOf 50 = .ok (.goto (-41), 3) := by decide +kernel
theorem d_Md_turnOf_53 : decode b_Md_turnOf 53 = .ok (.iload_n 2, 1) := by decide +kernel
theorem d_Md_turnOf_54 : decode b_Md_turnOf 54 = .ok (.ireturn, 1) := by decide +kernel
theorem d_Md_size_0 : decode b_Md_size 0 = .ok (.iload_n 0, 1) := by decide +kernel
theorem d_Md_size_1 : decode b_Md_size 1 = .ok (.ifCond .ge 8, 3) := by decide +kernel
theorem d_Md_size_4 : decode b_Md_size 4 = .ok (.iload_n 0, 1) := by decide +kernel
theorem d_Md_size_5 : decode b_Md_size 5 = .ok (.ineg, 1) := by decide +kernel
theorem d_Md_size_6 : decode b_Md_size 6 = .ok (.goto 4, 3) := by decide +kernel
theorem d_Md_size_9 : decode b_Md_size 9 = .ok (.iload_n 0, 1) := by decide +kernel
theorem d_Md_size_10 : decode b_Md_size 10 = .ok (.ireturn, 1) := by decide +kernel
theorem d_Md_partOf_0 : decode b_Md_partOf 0 = .ok (.iload_n 0, 1) := by decide +kernel
theorem d_Md_partOf_1 : decode b_Md_partOf 1 = .ok (.iload_n 1, 1) := by decide +kernel
theorem d_Md_partOf_2 : decode b_Md_partOf 2 = .ok (.invokestatic 101, 3) := by decide +kernel
theorem d_Md_partOf_5 : decode b_Md_partOf 5 = .ok (.istore_n 3, 1) := by decide +kernel
theorem d_Md_partOf_6 : decode b_Md_partOf 6 = .ok (.iload_n 2, 1) := by decide +kernel
theorem d_Md_partOf_7 : decode b_Md_partOf 7 = .ok (.ifCond .ne 9, 3) := by decide +kernel
theorem d_Md_partOf_10 : decode b_Md_partOf 10 = .ok (.iload_n 0, 1) := by decide +kernel
theorem d_Md_partOf_11 : decode b_Md_partOf 11 = .ok (.iload_n 3, 1) := by decide +kernel
theorem d_Md_partOf_12 : decode b_Md_partOf 12 = .ok (.idiv, 1) := by decide +kernel
theorem d_Md_partOf_13 : decode b_Md_partOf 13 = .ok (.goto 6, 3) := by decide +kernel
theorem d_Md_partOf_16 : decode b_Md_partOf 16 = .ok (.iload_n 1, 1) := by decide +kernel
theorem d_Md_partOf_17 : decode b_Md_partOf 17 = .ok (.iload_n 3, 1) := by decide +kernel
theorem d_Md_partOf_18 : decode b_Md_partOf 18 = .ok (.idiv, 1) := by decide +kernel
theorem d_Md_partOf_19 : decode b_Md_partOf 19 = .ok (.ireturn, 1) := by decide +kernel
theorem d_Md_common_0 : decode b_Md_common 0 = .ok (.iload_n 0, 1) := by decide +kernel
theorem d_Md_common_1 : decode b_Md_common 1 = .ok (.istore_n 2, 1) := by decide +kernel
theorem d_Md_common_2 : decode b_Md_common 2 = .ok (.iload_n 1, 1) := by decide +kernel
theorem d_Md_common_3 : decode b_Md_common 3 = .ok (.istore_n 3, 1) := by decide +kernel
theorem d_Md_common_4 : decode b_Md_common 4 = .ok (.iload_n 3, 1) := by decide +kernel
theorem d_Md_common_5 : decode b_Md_common 5 = .ok (.ifCond .eq 16, 3) := by decide +kernel
theorem d_Md_common_8 : decode b_Md_common 8 = .ok (.iload_n 2, 1) := by decide +kernel
theorem d_Md_common_9 : decode b_Md_common 9 = .ok (.iload_n 3, 1) := by decide +kernel
theorem d_Md_common_10 : decode b_Md_common 10 = .ok (.irem, 1) := by decide +kernel
theorem d_Md_common_11 : decode b_Md_common 11 = .ok (.istore 4, 2) := by decide +kernel
theorem d_Md_common_13 : decode b_Md_common 13 = .ok (.iload_n 3, 1) := by decide +kernel
theorem d_Md_common_14 : decode b_Md_common 14 = .ok (.istore_n 2, 1) := by decide +kernel
theorem d_Md_common_15 : decode b_Md_common 15 = .ok (.iload 4, 2) := by decide +kernel
theorem d_Md_common_17 : decode b_Md_common 17 = .ok (.istore_n 3, 1) := by decide +kernel
theorem d_Md_common_18 : decode b_Md_common 18 = .ok (.goto (-14), 3) := by decide +kernel
theorem d_Md_common_21 : decode b_Md_common 21 = .ok (.iload_n 2, 1) := by decide +kernel
theorem d_Md_common_22 : decode b_Md_common 22 = .ok (.ireturn, 1) := by decide +kernel
theorem d_Md_loss_0 : decode b_Md_loss 0 = .ok (.aload_n 0, 1) := by decide +kernel
theorem d_Md_loss_1 : decode b_Md_loss 1 = .ok (.iload_n 1, 1) := by decide +kernel
theorem d_Md_loss_2 : decode b_Md_loss 2 = .ok (.invokevirtual 84, 3) := by decide +kernel
theorem d_Md_loss_5 : decode b_Md_loss 5 = .ok (.ifCond .eq 23, 3) := by decide +kernel
theorem d_Md_loss_8 : decode b_Md_loss 8 = .ok (.iload_n 2, 1) := by decide +kernel
theorem d_Md_loss_9 : decode b_Md_loss 9 = .ok (.i2l, 1) := by decide +kernel
theorem d_Md_loss_10 : decode b_Md_loss 10 = .ok (.lconst 0, 1) := by decide +kernel
theorem d_Md_loss_11 : decode b_Md_loss 11 = .ok (.lconst 1, 1) := by decide +kernel
theorem d_Md_loss_12 : decode b_Md_loss 12 = .ok (.invokestatic 77, 3) := by decide +kernel
theorem d_Md_loss_15 : decode b_Md_loss 15 = .ok (.ifCond .eq 13, 3) := by decide +kernel
theorem d_Md_loss_18 : decode b_Md_loss 18 = .ok (.aload_n 0, 1) := by decide +kernel
theorem d_Md_loss_19 : decode b_Md_loss 19 = .ok (.getfield 30, 3) := by decide +kernel
theorem d_Md_loss_22 : decode b_Md_loss 22 = .ok (.iload_n 1, 1) := by decide +kernel
theorem d_Md_loss_23 : decode b_Md_loss 23 = .ok (.iaload, 1) := by decide +kernel
theorem d_Md_loss_24 : decode b_Md_loss 24 = .ok (.iconst 2, 1) := by decide +kernel
theorem d_Md_loss_25 : decode b_Md_loss 25 = .ok (.if_icmp .ge 5, 3) := by decide +kernel
theorem d_Md_loss_28 : decode b_Md_loss 28 = .ok (.iconst (-1), 1) := by decide +kernel
theorem d_Md_loss_29 : decode b_Md_loss 29 = .ok (.ireturn, 1) := by decide +kernel
theorem d_Md_loss_30 : decode b_Md_loss 30 = .ok (.bipush 10, 2) := by decide +kernel
theorem d_Md_loss_32 : decode b_Md_loss 32 = .ok (.iload_n 1, 1) := by decide +kernel
theorem d_Md_loss_33 : decode b_Md_loss 33 = .ok (.imul, 1) := by decide +kernel
theorem d_Md_loss_34 : decode b_Md_loss 34 = .ok (.istore_n 3, 1) := by decide +kernel
theorem d_Md_loss_35 : decode b_Md_loss 35 = .ok (.iload_n 3, 1) := by decide +kernel
theorem d_Md_loss_36 : decode b_Md_loss 36 = .ok (.aload_n 0, 1) := by decide +kernel
theorem d_Md_loss_37 : decode b_Md_loss 37 = .ok (.getfield 30, 3) := by decide +kernel
theorem d_Md_loss_40 : decode b_Md_loss 40 = .ok (.iload_n 1, 1) := by decide +kernel
theorem d_Md_loss_41 : decode b_Md_loss 41 = .ok (.iaload, 1) := by decide +kernel
theorem d_Md_loss_42 : decode b_Md_loss 42 = .ok (.iadd, 1) := by decide +kernel
theorem d_Md_loss_43 : decode b_Md_loss 43 = .ok (.iconst 1, 1) := by decide +kernel
theorem d_Md_loss_44 : decode b_Md_loss 44 = .ok (.isub, 1) := by decide +kernel
theorem d_Md_loss_45 : decode b_Md_loss 45 = .ok (.istore 4, 2) := by decide +kernel
theorem d_Md_loss_47 : decode b_Md_loss 47 = .ok (.aload_n 0, 1) := by decide +kernel
theorem d_Md_loss_48 : decode b_Md_loss 48 = .ok (.getfield 36, 3) := by decide +kernel
theorem d_Md_loss_51 : decode b_Md_loss 51 = .ok (.iload_n 3, 1) := by decide +kernel
theorem d_Md_loss_52 : decode b_Md_loss 52 = .ok (.iaload, 1) := by decide +kernel
theorem d_Md_loss_53 : decode b_Md_loss 53 = .ok (.aload_n 0, 1) := by decide +kernel
theorem d_Md_loss_54 : decode b_Md_loss 54 = .ok (.getfield 36, 3) := by decide +kernel
theorem d_Md_loss_57 : decode b_Md_loss 57 = .ok (.iload 4, 2) := by decide +kernel
theorem d_Md_loss_59 : decode b_Md_loss 59 = .ok (.iaload, 1) := by decide +kernel
theorem d_Md_loss_60 : decode b_Md_loss 60 = .ok (.isub, 1) := by decide +kernel
theorem d_Md_loss_61 : decode b_Md_loss 61 = .ok (.istore 5, 2) := by decide +kernel
theorem d_Md_loss_63 : decode b_Md_loss 63 = .ok (.iload 5, 2) := by decide +kernel
theorem d_Md_loss_65 : decode b_Md_loss 65 = .ok (.ifCond .ge 7, 3) := by decide +kernel
theorem d_Md_loss_68 : decode b_Md_loss 68 = .ok (.iconst 0, 1) := by decide +kernel
theorem d_Md_loss_69 : decode b_Md_loss 69 = .ok (.goto 5, 3) := by decide +kernel
theorem d_Md_loss_72 : decode b_Md_loss 72 = .ok (.iload 5, 2) := by decide +kernel
theorem d_Md_loss_74 : decode b_Md_loss 74 = .ok (.aload_n 0, 1) := by decide +kernel
theorem d_Md_loss_75 : decode b_Md_loss 75 = .ok (.getfield 33, 3) := by decide +kernel
theorem d_Md_loss_78 : decode b_Md_loss 78 = .ok (.iload 4, 2) := by decide +kernel
theorem d_Md_loss_80 : decode b_Md_loss 80 = .ok (.iaload, 1) := by decide +kernel
theorem d_Md_loss_81 : decode b_Md_loss 81 = .ok (.aload_n 0, 1) := by decide +kernel
theorem d_Md_loss_82 : decode b_Md_loss 82 = .ok (.getfield 33, 3) := by decide +kernel
theorem d_Md_loss_85 : decode b_Md_loss 85 = .ok (.iload_n 3, 1) := by decide +kernel
theorem d_Md_loss_86 : decode b_Md_loss 86 = .ok (.iaload, 1) := by decide +kernel
theorem d_Md_loss_87 : decode b_Md_loss 87 = .ok (.isub, 1) := by decide +kernel
theorem d_Md_loss_88 : decode b_Md_loss 88 = .ok (.iload_n 2, 1) := by decide +kernel
theorem d_Md_loss_89 : decode b_Md_loss 89 = .ok (.invokestatic 112, 3) := by decide +kernel
theorem d_Md_loss_92 : decode b_Md_loss 92 = .ok (.ireturn, 1) := by decide +kernel
theorem d_Md_uns_0 : decode b_Md_uns 0 = .ok (.aload_n 0, 1) := by decide +kernel
theorem d_Md_uns_1 : decode b_Md_uns 1 = .ok (.iload_n 1, 1) := by decide +kernel
theorem d_Md_uns_2 : decode b_Md_uns 2 = .ok (.invokevirtual 84, 3) := by decide +kernel
theorem d_Md_uns_5 : decode b_Md_uns 5 = .ok (.ifCond .ne 5, 3) := by decide +kernel
theorem d_Md_uns_8 : decode b_Md_uns 8 = .ok (.iconst 0, 1) := by decide +kernel
theorem d_Md_uns_9 : decode b_Md_uns 9 = .ok (.ireturn, 1) := by decide +kernel
theorem d_Md_uns_10 : decode b_Md_uns 10 = .ok (.aload_n 0, 1) := by decide +kernel
theorem d_Md_uns_11 : decode b_Md_uns 11 = .ok (.getfield 30, 3) := by decide +kernel
theorem d_Md_uns_14 : decode b_Md_uns 14 = .ok (.iload_n 1, 1) := by decide +kernel
theorem d_Md_uns_15 : decode b_Md_uns 15 = .ok (.iaload, 1) := by decide +kernel
theorem d_Md_uns_16 : decode b_Md_uns 16 = .ok (.ifCond .le 29, 3) := by decide +kernel
theorem d_Md_uns_19 : decode b_Md_uns 19 = .ok (.aload_n 0, 1) := by decide +kernel
theorem d_Md_uns_20 : decode b_Md_uns 20 = .ok (.iload_n 1, 1) := by decide +kernel
theorem d_Md_uns_21 : decode b_Md_uns 21 = .ok (.invokevirtual 116, 3) := by decide +kernel
theorem d_Md_uns_24 : decode b_Md_uns 24 = .ok (.sipush 1000, 3) := by decide +kernel
theorem d_Md_uns_27 : decode b_Md_uns 27 = .ok (.if_icmp .lt 14, 3) := by decide +kernel
theorem d_Md_uns_30 : decode b_Md_uns 30 = .ok (.aload_n 0, 1) := by decide +kernel
theorem d_Md_uns_31 : decode b_Md_uns 31 = .ok (.iload_n 1, 1) := by decide +kernel
theorem d_Md_uns_32 : decode b_Md_uns 32 = .ok (.invokevirtual 116, 3) := by decide +kernel
theorem d_Md_uns_35 : decode b_Md_uns 35 = .ok (.sipush 4500, 3) := by decide +kernel
theorem d_Md_uns_38 : decode b_Md_uns 38 = .ok (.if_icmp .le 7, 3) := by decide +kernel
theorem d_Md_uns_41 : decode b_Md_uns 41 = .ok (.iconst 1, 1) := by decide +kernel
theorem d_Md_uns_42 : decode b_Md_uns 42 = .ok (.goto 4, 3) := by decide +kernel
theorem d_Md_uns_45 : decode b_Md_uns 45 = .ok (.iconst 0, 1) := by decide +kernel
theorem d_Md_uns_46 : decode b_Md_uns 46 = .ok (.istore_n 2, 1) := by decide +kernel
theorem d_Md_uns_47 : decode b_Md_uns 47 = .ok (.aload_n 0, 1) := by decide +kernel
theorem d_Md_uns_48 : decode b_Md_uns 48 = .ok (.getfield 18, 3) := by decide +kernel
theorem d_Md_uns_51 : decode b_Md_uns 51 = .ok (.iload_n 1, 1) := by decide +kernel
theorem d_Md_uns_52 : decode b_Md_uns 52 = .ok (.iaload, 1) := by decide +kernel
theorem d_Md_uns_53 : decode b_Md_uns 53 = .ok (.ifCond .le 31, 3) := by decide +kernel
theorem d_Md_uns_56 : decode b_Md_uns 56 = .ok (.aload_n 0, 1) := by decide +kernel
theorem d_Md_uns_57 : decode b_Md_uns 57 = .ok (.getfield 27, 3) := by decide +kernel
theorem d_Md_uns_60 : decode b_Md_uns 60 = .ok (.bipush 30, 2) := by decide +kernel
theorem d_Md_uns_62 : decode b_Md_uns 62 = .ok (.iload_n 1, 1) := by decide +kernel
theorem d_Md_uns_63 : decode b_Md_uns 63 = .ok (.imul, 1) := by decide +kernel
theorem d_Md_uns_64 : decode b_Md_uns 64 = .ok (.aload_n 0, 1) := by decide +kernel
theorem d_Md_uns_65 : decode b_Md_uns 65 = .ok (.getfield 18, 3) := by decide +kernel
theorem d_Md_uns_68 : decode b_Md_uns 68 = .ok (.iload_n 1, 1) := by decide +kernel
theorem d_Md_uns_69 : decode b_Md_uns 69 = .ok (.iaload, 1) := by decide +kernel
theorem d_Md_uns_70 : decode b_Md_uns 70 = .ok (.iadd, 1) := by decide +kernel
theorem d_Md_uns_71 : decode b_Md_uns 71 = .ok (.iconst 1, 1) := by decide +kernel
theorem d_Md_uns_72 : decode b_Md_uns 72 = .ok (.isub, 1) := by decide +kernel
theorem d_Md_uns_73 : decode b_Md_uns 73 = .ok (.iaload, 1) := by decide +kernel
theorem d_Md_uns_74 : decode b_Md_uns 74 = .ok (.sipush 5000, 3) := by decide +kernel
theorem d_Md_uns_77 : decode b_Md_uns 77 = .ok (.if_icmp .le 7, 3) := by decide +kernel
theorem d_Md_uns_80 : decode b_Md_uns 80 = .ok (.iconst 1, 1) := by decide +kernel
theorem d_Md_uns_81 : decode b_Md_uns 81 = .ok (.goto 4, 3) := by decide +kernel
theorem d_Md_uns_84 : decode b_Md_uns 84 = .ok (.iconst 0, 1) := by decide +kernel
theorem d_Md_uns_85 : decode b_Md_uns 85 = .ok (.istore_n 3, 1) := by decide +kernel
theorem d_Md_uns_86 : decode b_Md_uns 86 = .ok (.iload_n 2, 1) := by decide +kernel
theorem d_Md_uns_87 : decode b_Md_uns 87 = .ok (.ifCond .ne 7, 3) := by decide +kernel
theorem d_Md_uns_90 : decode b_Md_uns 90 = .ok (.iload_n 3, 1) := by decide +kernel
theorem d_Md_uns_91 : decode b_Md_uns 91 = .ok (.ifCond .eq 7, 3) := by decide +kernel
theorem d_Md_uns_94 : decode b_Md_uns 94 = .ok (.iconst 1, 1) := by decide +kernel
theorem d_Md_uns_95 : decode b_Md_uns 95 = .ok (.goto 4, 3) := by decide +kernel
theorem d_Md_uns_98 : decode b_Md_uns 98 = .ok (.iconst 0, 1) := by decide +kernel
theorem d_Md_uns_99 : decode b_Md_uns 99 = .ok (.ireturn, 1) := by decide +kernel
theorem d_Md_lastRest_0 : decode b_Md_lastRest 0 = .ok (.aload_n 0, 1) := by decide +kernel
theorem d_Md_lastRest_1 : decode b_Md_lastRest 1 = .ok (.getfield 36, 3) := by decide +kernel
theorem d_Md_lastRest_4 : decode b_Md_lastRest 4 = .ok (.bipush 10, 2) := by decide +kernel
theorem d_Md_lastRest_6 : decode b_Md_lastRest 6 = .ok (.iload_n 1, 1) := by decide +kernel
theorem d_Md_lastRest_7 : decode b_Md_lastRest 7 = .ok (.imul, 1) := by decide +kernel
theorem d_Md_lastRest_8 : decode b_Md_lastRest 8 = .ok (.aload_n 0, 1) := by decide +kernel
theorem d_Md_lastRest_9 : decode b_Md_lastRest 9 = .ok (.getfield 30, 3) := by decide +kernel
theorem d_Md_lastRest_12 : decode b_Md_lastRest 12 = .ok (.iload_n 1, 1) := by decide +kernel
theorem d_Md_lastRest_13 : decode b_Md_lastRest 13 = .ok (.iaload, 1) := by decide +kernel
theorem d_Md_lastRest_14 : decode b_Md_lastRest 14 = .ok (.iadd, 1) := by decide +kernel
theorem d_Md_lastRest_15 : decode b_Md_lastRest 15 = .ok (.iconst 1, 1) := by decide +kernel
theorem d_Md_lastRest_16 : decode b_Md_lastRest 16 = .ok (.isub, 1) := by decide +kernel
theorem d_Md_lastRest_17 : decode b_Md_lastRest 17 = .ok (.iaload, 1) := by decide +kernel
theorem d_Md_lastRest_18 : decode b_Md_lastRest 18 = .ok (.ireturn, 1) := by decide +kernel
theorem d_Md_unit_0 : decode b_Md_unit 0 = .ok (.iload_n 1, 1) := by decide +kernel
theorem d_Md_unit_1 : decode b_Md_unit 1 = .ok (.i2l, 1) := by decide +kernel
theorem d_Md_unit_2 : decode b_Md_unit 2 = .ok (.lconst 0, 1) := by decide +kernel
theorem d_Md_unit_3 : decode b_Md_unit 3 = .ok (.ldc2_w 119, 3) := by decide +kernel
theorem d_Md_unit_6 : decode b_Md_unit 6 = .ok (.invokestatic 77, 3) := by decide +kernel
theorem d_Md_unit_9 : decode b_Md_unit 9 = .ok (.ifCond .eq 13, 3) := by decide +kernel
theorem d_Md_unit_12 : decode b_Md_unit 12 = .ok (.aload_n 0, 1) := by decide +kernel
theorem d_Md_unit_13 : decode b_Md_unit 13 = .ok (.getfield 121, 3) := by decide +kernel
theorem d_Md_unit_16 : decode b_Md_unit 16 = .ok (.sipush 600, 3) := by decide +kernel
theorem d_Md_unit_19 : decode b_Md_unit 19 = .ok (.if_icmp .ne 5, 3) := by decide +kernel
theorem d_Md_unit_22 : decode b_Md_unit 22 = .ok (.iconst 0, 1) := by decide +kernel
theorem d_Md_unit_23 : decode b_Md_unit 23 = .ok (.ireturn, 1) := by decide +kernel
theorem d_Md_unit_24 : decode b_Md_unit 24 = .ok (.aload_n 0, 1) := by decide +kernel
theorem d_Md_unit_25 : decode b_Md_unit 25 = .ok (.getfield 39, 3) := by decide +kernel
theorem d_Md_unit_28 : decode b_Md_unit 28 = .ok (.aload_n 0, 1) := by decide +kernel
theorem d_Md_unit_29 : decode b_Md_unit 29 = .ok (.getfield 121, 3) := by decide +kernel
theorem d_Md_unit_32 : decode b_Md_unit 32 = .ok (.iload_n 1, 1) := by decide +kernel
theorem d_Md_unit_33 : decode b_Md_unit 33 = .ok (.iastore, 1) := by decide +kernel
theorem d_Md_unit_34 : decode b_Md_unit 34 = .ok (.aload_n 0, 1) := by decide +kernel
theorem d_Md_unit_35 : decode b_Md_unit 35 = .ok (.dup, 1) := by decide +kernel
theorem d_Md_unit_36 : decode b_Md_unit 36 = .ok (.getfield 121, 3) := by decide +kernel
theorem d_Md_unit_39 : decode b_Md_unit 39 = .ok (.iconst 1, 1) := by decide +kernel
theorem d_Md_unit_40 : decode b_Md_unit 40 = .ok (.iadd, 1) := by decide +kernel
theorem d_Md_unit_41 : decode b_Md_unit 41 = .ok (.putfield 121, 3) := by decide +kernel
theorem d_Md_unit_44 : decode b_Md_unit 44 = .ok (.iconst 1, 1) := by decide +kernel
theorem d_Md_unit_45 : decode b_Md_unit 45 = .ok (.ireturn, 1) := by decide +kernel
theorem d_Md_rules_0 : decode b_Md_rules 0 = .ok (.aload_n 0, 1) := by decide +kernel
theorem d_Md_rules_1 : decode b_Md_rules 1 = .ok (.iconst 0, 1) := by decide +kernel
theorem d_Md_rules_2 : decode b_Md_rules 2 = .ok (.putfield 133, 3) := by decide +kernel
theorem d_Md_rules_5 : decode b_Md_rules 5 = .ok (.aload_n 0, 1) := by decide +kernel
theorem d_Md_rules_6 : decode b_Md_rules 6 = .ok (.iconst 0, 1) := by decide +kernel
theorem d_Md_rules_7 : decode b_Md_rules 7 = .ok (.putfield 136, 3) := by decide +kernel
theorem d_Md_rules_10 : decode b_Md_rules 10 = .ok (.aload_n 0, 1) := by decide +kernel
theorem d_Md_rules_11 : decode b_Md_rules 11 = .ok (.iconst 0, 1) := by decide +kernel
theorem d_Md_rules_12 : decode b_Md_rules 12 = .ok (.putfield 123, 3) := by decide +kernel
theorem d_Md_rules_15 : decode b_Md_rules 15 = .ok (.iconst 0, 1) := by decide +kernel
theorem d_Md_rules_16 : decode b_Md_rules 16 = .ok (.istore_n 1, 1) := by decide +kernel
theorem d_Md_rules_17 : decode b_Md_rules 17 = .ok (.iconst 0, 1) := by decide +kernel
theorem d_Md_rules_18 : decode b_Md_rules 18 = .ok (.istore_n 2, 1) := by decide +kernel
theorem d_Md_rules_19 : decode b_Md_rules 19 = .ok (.iconst (-1), 1) := by decide +kernel
theorem d_Md_rules_20 : decode b_Md_rules 20 = .ok (.istore_n 3, 1) := by decide +kernel
theorem d_Md_rules_21 : decode b_Md_rules 21 = .ok (.iload_n 3, 1) := by decide +kernel
theorem d_Md_rules_22 : decode b_Md_rules 22 = .ok (.ifCond .ge 172, 3) := by decide +kernel
theorem d_Md_rules_25 : decode b_Md_rules 25 = .ok (.aload_n 0, 1) := by decide +kernel
theorem d_Md_rules_26 : decode b_Md_rules 26 = .ok (.invokevirtual 139, 3) := by decide +kernel
theorem d_Md_rules_29 : decode b_Md_rules 29 = .ok (.ifCond .eq 165, 3) := by decide +kernel
theorem d_Md_rules_32 : decode b_Md_rules 32 = .ok (.aload_n 0, 1) := by decide +kernel
theorem d_Md_rules_33 : decode b_Md_rules 33 = .ok (.invokevirtual 143, 3) := by decide +kernel
theorem d_Md_rules_36 : decode b_Md_rules 36 = .ok (.istore 4, 2) := by decide +kernel
theorem d_Md_rules_38 : decode b_Md_rules 38 = .ok (.iload_n 2, 1) := by decide +kernel
theorem d_Md_rules_39 : decode b_Md_rules 39 = .ok (.tableswitch 96 1 4 #[29, 96, 44, 61], 29) := by decide +kernel
theorem d_Md_rules_68 : decode b_Md_rules 68 = .ok (.iload 4, 2) := by decide +kernel
theorem d_Md_rules_70 : decode b_Md_rules 70 = .ok (.i2l, 1) := by decide +kernel
theorem d_Md_rules_71 : decode b_Md_rules 71 = .ok (.lconst 0, 1) := by decide +kernel
theorem d_Md_rules_72 : decode b_Md_rules 72 = .ok (.ldc2_w 147, 3) := by decide +kernel
theorem d_Md_rules_75 : decode b_Md_rules 75 = .ok (.invokestatic 77, 3) := by decide +kernel
theorem d_Md_rules_78 : decode b_Md_rules 78 = .ok (.istore 5, 2) := by decide +kernel
theorem d_Md_rules_80 : decode b_Md_rules 80 = .ok (.goto 90, 3) := by decide +kernel
theorem d_Md_rules_83 : decode b_Md_rules 83 = .ok (.iload 4, 2) := by decide +kernel
theorem d_Md_rules_85 : decode b_Md_rules 85 = .ok (.ldc 132, 2) := by decide +kernel
