theorem d_Md_pack_135 : decode b_Md_pack 135 = .ok (.lconst 0, 1) := by decide +kernel
theorem d_Md_pack_136 : decode b_Md_pack 136 = .ok (.lcmp, 1) := by decide +kernel
theorem d_Md_pack_137 : decode b_Md_pack 137 = .ok (.ifCond .lt 76, 3) := by decide +kernel
theorem d_Md_pack_140 : decode b_Md_pack 140 = .ok (.lload 4, 2) := by decide +kernel
theorem d_Md_pack_142 : decode b_Md_pack 142 = .ok (.lconst 0, 1) := by decide +kernel
theorem d_Md_pack_143 : decode b_Md_pack 143 = .ok (.lcmp, 1) := by decide +kernel
theorem d_Md_pack_144 : decode b_Md_pack 144 = .ok (.ifCond .lt 11, 3) := by decide +kernel
theorem d_Md_pack_147 : decode b_Md_pack 147 = .ok (.lload 7, 2) := by decide +kernel
theorem d_Md_pack_149 : decode b_Md_pack 149 = .ok (.lload 4, 2) := by decide +kernel
theorem d_Md_pack_151 : decode b_Md_pack 151 = .ok (.lcmp, 1) := by decide +kernel
theorem d_Md_pack_152 : decode b_Md_pack 152 = .ok (.ifCond .ge 61, 3) := by decide +kernel
theorem d_Md_pack_155 : decode b_Md_pack 155 = .ok (.lload 7, 2) := by decide +kernel
theorem d_Md_pack_157 : decode b_Md_pack 157 = .ok (.lstore 4, 2) := by decide +kernel
theorem d_Md_pack_159 : decode b_Md_pack 159 = .ok (.iconst 0, 1) := by decide +kernel
theorem d_Md_pack_160 : decode b_Md_pack 160 = .ok (.istore 9, 2) := by decide +kernel
theorem d_Md_pack_162 : decode b_Md_pack 162 = .ok (.iload 9, 2) := by decide +kernel
theorem d_Md_pack_164 : decode b_Md_pack 164 = .ok (.bipush 8, 2) := by decide +kernel
theorem d_Md_pack_166 : decode b_Md_pack 166 = .ok (.if_icmp .ge 47, 3) := by decide +kernel
theorem d_Md_pack_169 : decode b_Md_pack 169 = .ok (.aload_n 0, 1) := by decide +kernel
theorem d_Md_pack_170 : decode b_Md_pack 170 = .ok (.getfield 60, 3) := by decide +kernel
theorem d_Md_pack_173 : decode b_Md_pack 173 = .ok (.iload 9, 2) := by decide +kernel
theorem d_Md_pack_175 : decode b_Md_pack 175 = .ok (.iload 9, 2) := by decide +kernel
theorem d_Md_pack_177 : decode b_Md_pack 177 = .ok (.aload_n 0, 1) := by decide +kernel
theorem d_Md_pack_178 : decode b_Md_pack 178 = .ok (.getfield 72, 3) := by decide +kernel
theorem d_Md_pack_181 : decode b_Md_pack 181 = .ok (.if_icmp .ge 24, 3) := by decide +kernel
theorem d_Md_pack_184 : decode b_Md_pack 184 = .ok (.aload_n 0, 1) := by decide +kernel
theorem d_Md_pack_185 : decode b_Md_pack 185 = .ok (.getfield 63, 3) := by decide +kernel
theorem d_Md_pack_188 : decode b_Md_pack 188 = .ok (.iload 9, 2) := by decide +kernel
theorem d_Md_pack_190 : decode b_Md_pack 190 = .ok (.iaload, 1) := by decide +kernel
theorem d_Md_pack_191 : decode b_Md_pack 191 = .ok (.iload_n 2, 1) := by decide +kernel
theorem d_Md_pack_192 : decode b_Md_pack 192 = .ok (.if_icmp .ge 13, 3) := by decide +kernel
theorem d_Md_pack_195 : decode b_Md_pack 195 = .ok (.aload_n 0, 1) := by decide +kernel
theorem d_Md_pack_196 : decode b_Md_pack 196 = .ok (.getfield 63, 3) := by decide +kernel
theorem d_Md_pack_199 : decode b_Md_pack 199 = .ok (.iload 9, 2) := by decide +kernel
theorem d_Md_pack_201 : decode b_Md_pack 201 = .ok (.iaload, 1) := by decide +kernel
theorem d_Md_pack_202 : decode b_Md_pack 202 = .ok (.goto 4, 3) := by decide +kernel
theorem d_Md_pack_205 : decode b_Md_pack 205 = .ok (.iconst (-1), 1) := by decide +kernel
theorem d_Md_pack_206 : decode b_Md_pack 206 = .ok (.iastore, 1) := by decide +kernel
theorem d_Md_pack_207 : decode b_Md_pack 207 = .ok (.iinc 9 1, 3) := by decide +kernel
theorem d_Md_pack_210 : decode b_Md_pack 210 = .ok (.goto (-48), 3) := by decide +kernel
theorem d_Md_pack_213 : decode b_Md_pack 213 = .ok (.aload_n 0, 1) := by decide +kernel
theorem d_Md_pack_214 : decode b_Md_pack 214 = .ok (.iload_n 2, 1) := by decide +kernel
theorem d_Md_pack_215 : decode b_Md_pack 215 = .ok (.invokevirtual 192, 3) := by decide +kernel
theorem d_Md_pack_218 : decode b_Md_pack 218 = .ok (.istore 6, 2) := by decide +kernel
theorem d_Md_pack_220 : decode b_Md_pack 220 = .ok (.goto (-115), 3) := by decide +kernel
theorem d_Md_pack_223 : decode b_Md_pack 223 = .ok (.lload 4, 2) := by decide +kernel
theorem d_Md_pack_225 : decode b_Md_pack 225 = .ok (.lreturn, 1) := by decide +kernel
theorem d_Md_isWhole_0 : decode b_Md_isWhole 0 = .ok (.aload_n 0, 1) := by decide +kernel
theorem d_Md_isWhole_1 : decode b_Md_isWhole 1 = .ok (.iload_n 1, 1) := by decide +kernel
theorem d_Md_isWhole_2 : decode b_Md_isWhole 2 = .ok (.invokevirtual 168, 3) := by decide +kernel
theorem d_Md_isWhole_5 : decode b_Md_isWhole 5 = .ok (.ifCond .ne 15, 3) := by decide +kernel
theorem d_Md_isWhole_8 : decode b_Md_isWhole 8 = .ok (.aload_n 0, 1) := by decide +kernel
theorem d_Md_isWhole_9 : decode b_Md_isWhole 9 = .ok (.iload_n 1, 1) := by decide +kernel
theorem d_Md_isWhole_10 : decode b_Md_isWhole 10 = .ok (.invokevirtual 177, 3) := by decide +kernel
theorem d_Md_isWhole_13 : decode b_Md_isWhole 13 = .ok (.ifCond .ne 7, 3) := by decide +kernel
theorem d_Md_isWhole_16 : decode b_Md_isWhole 16 = .ok (.iconst 1, 1) := by decide +kernel
theorem d_Md_isWhole_17 : decode b_Md_isWhole 17 = .ok (.goto 4, 3) := by decide +kernel
theorem d_Md_isWhole_20 : decode b_Md_isWhole 20 = .ok (.iconst 0, 1) := by decide +kernel
theorem d_Md_isWhole_21 : decode b_Md_isWhole 21 = .ok (.ireturn, 1) := by decide +kernel
theorem d_Md_mayBe_0 : decode b_Md_mayBe 0 = .ok (.iconst 0, 1) := by decide +kernel
theorem d_Md_mayBe_1 : decode b_Md_mayBe 1 = .ok (.istore_n 3, 1) := by decide +kernel
theorem d_Md_mayBe_2 : decode b_Md_mayBe 2 = .ok (.iconst 0, 1) := by decide +kernel
theorem d_Md_mayBe_3 : decode b_Md_mayBe 3 = .ok (.istore 4, 2) := by decide +kernel
theorem d_Md_mayBe_5 : decode b_Md_mayBe 5 = .ok (.iload 4, 2) := by decide +kernel
theorem d_Md_mayBe_7 : decode b_Md_mayBe 7 = .ok (.aload_n 0, 1) := by decide +kernel
theorem d_Md_mayBe_8 : decode b_Md_mayBe 8 = .ok (.getfield 72, 3) := by decide +kernel
theorem d_Md_mayBe_11 : decode b_Md_mayBe 11 = .ok (.if_icmp .ge 28, 3) := by decide +kernel
theorem d_Md_mayBe_14 : decode b_Md_mayBe 14 = .ok (.iload_n 3, 1) := by decide +kernel
theorem d_Md_mayBe_15 : decode b_Md_mayBe 15 = .ok (.aload_n 0, 1) := by decide +kernel
theorem d_Md_mayBe_16 : decode b_Md_mayBe 16 = .ok (.getfield 63, 3) := by decide +kernel
theorem d_Md_mayBe_19 : decode b_Md_mayBe 19 = .ok (.iload 4, 2) := by decide +kernel
theorem d_Md_mayBe_21 : decode b_Md_mayBe 21 = .ok (.iaload, 1) := by decide +kernel
theorem d_Md_mayBe_22 : decode b_Md_mayBe 22 = .ok (.iload_n 2, 1) := by decide +kernel
theorem d_Md_mayBe_23 : decode b_Md_mayBe 23 = .ok (.if_icmp .ge 7, 3) := by decide +kernel
theorem d_Md_mayBe_26 : decode b_Md_mayBe 26 = .ok (.iconst 1, 1) := by decide +kernel
theorem d_Md_mayBe_27 : decode b_Md_mayBe 27 = .ok (.goto 4, 3) := by decide +kernel
theorem d_Md_mayBe_30 : decode b_Md_mayBe 30 = .ok (.iconst 0, 1) := by decide +kernel
theorem d_Md_mayBe_31 : decode b_Md_mayBe 31 = .ok (.iadd, 1) := by decide +kernel
theorem d_Md_mayBe_32 : decode b_Md_mayBe 32 = .ok (.istore_n 3, 1) := by decide +kernel
theorem d_Md_mayBe_33 : decode b_Md_mayBe 33 = .ok (.iinc 4 1, 3) := by decide +kernel
theorem d_Md_mayBe_36 : decode b_Md_mayBe 36 = .ok (.goto (-31), 3) := by decide +kernel
theorem d_Md_mayBe_39 : decode b_Md_mayBe 39 = .ok (.iload_n 3, 1) := by decide +kernel
theorem d_Md_mayBe_40 : decode b_Md_mayBe 40 = .ok (.iload_n 1, 1) := by decide +kernel
theorem d_Md_mayBe_41 : decode b_Md_mayBe 41 = .ok (.iload_n 2, 1) := by decide +kernel
theorem d_Md_mayBe_42 : decode b_Md_mayBe 42 = .ok (.imul, 1) := by decide +kernel
theorem d_Md_mayBe_43 : decode b_Md_mayBe 43 = .ok (.if_icmp .ne 7, 3) := by decide +kernel
theorem d_Md_mayBe_46 : decode b_Md_mayBe 46 = .ok (.iconst 1, 1) := by decide +kernel
theorem d_Md_mayBe_47 : decode b_Md_mayBe 47 = .ok (.goto 4, 3) := by decide +kernel
theorem d_Md_mayBe_50 : decode b_Md_mayBe 50 = .ok (.iconst 0, 1) := by decide +kernel
theorem d_Md_mayBe_51 : decode b_Md_mayBe 51 = .ok (.ireturn, 1) := by decide +kernel
theorem d_Md_spread_0 : decode b_Md_spread 0 = .ok (.lconst 0, 1) := by decide +kernel
theorem d_Md_spread_1 : decode b_Md_spread 1 = .ok (.lstore_n 3, 1) := by decide +kernel
theorem d_Md_spread_2 : decode b_Md_spread 2 = .ok (.iconst (-1), 1) := by decide +kernel
theorem d_Md_spread_3 : decode b_Md_spread 3 = .ok (.istore 5, 2) := by decide +kernel
theorem d_Md_spread_5 : decode b_Md_spread 5 = .ok (.iconst 0, 1) := by decide +kernel
theorem d_Md_spread_6 : decode b_Md_spread 6 = .ok (.istore 6, 2) := by decide +kernel
theorem d_Md_spread_8 : decode b_Md_spread 8 = .ok (.iload 6, 2) := by decide +kernel
theorem d_Md_spread_10 : decode b_Md_spread 10 = .ok (.iload_n 2, 1) := by decide +kernel
theorem d_Md_spread_11 : decode b_Md_spread 11 = .ok (.if_icmp .ge 149, 3) := by decide +kernel
theorem d_Md_spread_14 : decode b_Md_spread 14 = .ok (.iconst 0, 1) := by decide +kernel
theorem d_Md_spread_15 : decode b_Md_spread 15 = .ok (.istore 7, 2) := by decide +kernel
theorem d_Md_spread_17 : decode b_Md_spread 17 = .ok (.iconst (-1), 1) := by decide +kernel
theorem d_Md_spread_18 : decode b_Md_spread 18 = .ok (.istore 8, 2) := by decide +kernel
theorem d_Md_spread_20 : decode b_Md_spread 20 = .ok (.lconst 0, 1) := by decide +kernel
theorem d_Md_spread_21 : decode b_Md_spread 21 = .ok (.lstore 9, 2) := by decide +kernel
theorem d_Md_spread_23 : decode b_Md_spread 23 = .ok (.lconst 0, 1) := by decide +kernel
theorem d_Md_spread_24 : decode b_Md_spread 24 = .ok (.lstore 11, 2) := by decide +kernel
theorem d_Md_spread_26 : decode b_Md_spread 26 = .ok (.iconst 0, 1) := by decide +kernel
theorem d_Md_spread_27 : decode b_Md_spread 27 = .ok (.istore 13, 2) := by decide +kernel
theorem d_Md_spread_29 : decode b_Md_spread 29 = .ok (.iload 13, 2) := by decide +kernel
theorem d_Md_spread_31 : decode b_Md_spread 31 = .ok (.aload_n 0, 1) := by decide +kernel
theorem d_Md_spread_32 : decode b_Md_spread 32 = .ok (.getfield 72, 3) := by decide +kernel
theorem d_Md_spread_35 : decode b_Md_spread 35 = .ok (.if_icmp .ge 90, 3) := by decide +kernel
theorem d_Md_spread_38 : decode b_Md_spread 38 = .ok (.aload_n 0, 1) := by decide +kernel
theorem d_Md_spread_39 : decode b_Md_spread 39 = .ok (.getfield 63, 3) := by decide +kernel
theorem d_Md_spread_42 : decode b_Md_spread 42 = .ok (.iload 13, 2) := by decide +kernel
theorem d_Md_spread_44 : decode b_Md_spread 44 = .ok (.iaload, 1) := by decide +kernel
theorem d_Md_spread_45 : decode b_Md_spread 45 = .ok (.iload 6, 2) := by decide +kernel
theorem d_Md_spread_47 : decode b_Md_spread 47 = .ok (.if_icmp .ne 72, 3) := by decide +kernel
theorem d_Md_spread_50 : decode b_Md_spread 50 = .ok (.aload_n 0, 1) := by decide +kernel
theorem d_Md_spread_51 : decode b_Md_spread 51 = .ok (.iload 13, 2) := by decide +kernel
theorem d_Md_spread_53 : decode b_Md_spread 53 = .ok (.invokevirtual 161, 3) := by decide +kernel
theorem d_Md_spread_56 : decode b_Md_spread 56 = .ok (.lstore 14, 2) := by decide +kernel
theorem d_Md_spread_58 : decode b_Md_spread 58 = .ok (.iload 7, 2) := by decide +kernel
theorem d_Md_spread_60 : decode b_Md_spread 60 = .ok (.ifCond .eq 11, 3) := by decide +kernel
theorem d_Md_spread_63 : decode b_Md_spread 63 = .ok (.lload 14, 2) := by decide +kernel
theorem d_Md_spread_65 : decode b_Md_spread 65 = .ok (.lload 9, 2) := by decide +kernel
theorem d_Md_spread_67 : decode b_Md_spread 67 = .ok (.lcmp, 1) := by decide +kernel
theorem d_Md_spread_68 : decode b_Md_spread 68 = .ok (.ifCond .ge 8, 3) := by decide +kernel
theorem d_Md_spread_71 : decode b_Md_spread 71 = .ok (.lload 14, 2) := by decide +kernel
theorem d_Md_spread_73 : decode b_Md_spread 73 = .ok (.goto 5, 3) := by decide +kernel
theorem d_Md_spread_76 : decode b_Md_spread 76 = .ok (.lload 9, 2) := by decide +kernel
theorem d_Md_spread_78 : decode b_Md_spread 78 = .ok (.lstore 9, 2) := by decide +kernel
theorem d_Md_spread_80 : decode b_Md_spread 80 = .ok (.iload 7, 2) := by decide +kernel
theorem d_Md_spread_82 : decode b_Md_spread 82 = .ok (.ifCond .eq 11, 3) := by decide +kernel
theorem d_Md_spread_85 : decode b_Md_spread 85 = .ok (.lload 14, 2) := by decide +kernel
theorem d_Md_spread_87 : decode b_Md_spread 87 = .ok (.lload 11, 2) := by decide +kernel
theorem d_Md_spread_89 : decode b_Md_spread 89 = .ok (.lcmp, 1) := by decide +kernel
theorem d_Md_spread_90 : decode b_Md_spread 90 = .ok (.ifCond .le 8, 3) := by decide +kernel
theorem d_Md_spread_93 : decode b_Md_spread 93 = .ok (.lload 14, 2) := by decide +kernel
theorem d_Md_spread_95 : decode b_Md_spread 95 = .ok (.goto 5, 3) := by decide +kernel
theorem d_Md_spread_98 : decode b_Md_spread 98 = .ok (.lload 11, 2) := by decide +kernel
theorem d_Md_spread_100 : decode b_Md_spread 100 = .ok (.lstore 11, 2) := by decide +kernel
theorem d_Md_spread_102 : decode b_Md_spread 102 = .ok (.iload 7, 2) := by decide +kernel
theorem d_Md_spread_104 : decode b_Md_spread 104 = .ok (.ifCond .ne 8, 3) := by decide +kernel
theorem d_Md_spread_107 : decode b_Md_spread 107 = .ok (.iload 13, 2) := by decide +kernel
theorem d_Md_spread_109 : decode b_Md_spread 109 = .ok (.goto 5, 3) := by decide +kernel
theorem d_Md_spread_112 : decode b_Md_spread 112 = .ok (.iload 8, 2) := by decide +kernel
theorem d_Md_spread_114 : decode b_Md_spread 114 = .ok (.istore 8, 2) := by decide +kernel
theorem d_Md_spread_116 : decode b_Md_spread 116 = .ok (.iinc 7 1, 3) := by decide +kernel
theorem d_Md_spread_119 : decode b_Md_spread 119 = .ok (.iinc 13 1, 3) := by decide +kernel
theorem d_Md_spread_122 : decode b_Md_spread 122 = .ok (.goto (-93), 3) := by decide +kernel
theorem d_Md_spread_125 : decode b_Md_spread 125 = .ok (.iload 7, 2) := by decide +kernel
theorem d_Md_spread_127 : decode b_Md_spread 127 = .ok (.iload_n 1, 1) := by decide +kernel
theorem d_Md_spread_128 : decode b_Md_spread 128 = .ok (.if_icmp .ne 10, 3) := by decide +kernel
theorem d_Md_spread_131 : decode b_Md_spread 131 = .ok (.iload 8, 2) := by decide +kernel
theorem d_Md_spread_133 : decode b_Md_spread 133 = .ok (.iload 5, 2) := by decide +kernel
theorem d_Md_spread_135 : decode b_Md_spread 135 = .ok (.if_icmp .ge 7, 3) := by decide +kernel
theorem d_Md_spread_138 : decode b_Md_spread 138 = .ok (.ldc2_w 180, 3) := by decide +kernel
theorem d_Md_spread_141 : decode b_Md_spread 141 = .ok (.lreturn, 1) := by decide +kernel
theorem d_Md_spread_142 : decode b_Md_spread 142 = .ok (.iload 8, 2) := by decide +kernel
theorem d_Md_spread_144 : decode b_Md_spread 144 = .ok (.istore 5, 2) := by decide +kernel
theorem d_Md_spread_146 : decode b_Md_spread 146 = .ok (.lload_n 3, 1) := by decide +kernel
theorem d_Md_spread_147 : decode b_Md_spread 147 = .ok (.lload 11, 2) := by decide +kernel
theorem d_Md_spread_149 : decode b_Md_spread 149 = .ok (.lload 9, 2) := by decide +kernel
theorem d_Md_spread_151 : decode b_Md_spread 151 = .ok (.lsub, 1) := by decide +kernel
theorem d_Md_spread_152 : decode b_Md_spread 152 = .ok (.ladd, 1) := by decide +kernel
theorem d_Md_spread_153 : decode b_Md_spread 153 = .ok (.lstore_n 3, 1) := by decide +kernel
theorem d_Md_spread_154 : decode b_Md_spread 154 = .ok (.iinc 6 1, 3) := by decide +kernel
theorem d_Md_spread_157 : decode b_Md_spread 157 = .ok (.goto (-149), 3) := by decide +kernel
theorem d_Md_spread_160 : decode b_Md_spread 160 = .ok (.lload_n 3, 1) := by decide +kernel
theorem d_Md_spread_161 : decode b_Md_spread 161 = .ok (.lreturn, 1) := by decide +kernel
theorem d_Md_turn_0 : decode b_Md_turn 0 = .ok (.aload_n 0, 1) := by decide +kernel
theorem d_Md_turn_1 : decode b_Md_turn 1 = .ok (.getfield 72, 3) := by decide +kernel
theorem d_Md_turn_4 : decode b_Md_turn 4 = .ok (.iconst 1, 1) := by decide +kernel
theorem d_Md_turn_5 : decode b_Md_turn 5 = .ok (.isub, 1) := by decide +kernel
theorem d_Md_turn_6 : decode b_Md_turn 6 = .ok (.istore_n 2, 1) := by decide +kernel
theorem d_Md_turn_7 : decode b_Md_turn 7 = .ok (.iload_n 2, 1) := by decide +kernel
theorem d_Md_turn_8 : decode b_Md_turn 8 = .ok (.ifCond .lt 46, 3) := by decide +kernel
theorem d_Md_turn_11 : decode b_Md_turn 11 = .ok (.aload_n 0, 1) := by decide +kernel
theorem d_Md_turn_12 : decode b_Md_turn 12 = .ok (.iload_n 2, 1) := by decide +kernel
theorem d_Md_turn_13 : decode b_Md_turn 13 = .ok (.invokevirtual 182, 3) := by decide +kernel
theorem d_Md_turn_16 : decode b_Md_turn 16 = .ok (.ifCond .eq 13, 3) := by decide +kernel
theorem d_Md_turn_19 : decode b_Md_turn 19 = .ok (.aload_n 0, 1) := by decide +kernel
theorem d_Md_turn_20 : decode b_Md_turn 20 = .ok (.getfield 63, 3) := by decide +kernel
theorem d_Md_turn_23 : decode b_Md_turn 23 = .ok (.iload_n 2, 1) := by decide +kernel
theorem d_Md_turn_24 : decode b_Md_turn 24 = .ok (.iaload, 1) := by decide +kernel
theorem d_Md_turn_25 : decode b_Md_turn 25 = .ok (.iload_n 1, 1) := by decide +kernel
theorem d_Md_turn_26 : decode b_Md_turn 26 = .ok (.if_icmp .ne 28, 3) := by decide +kernel
theorem d_Md_turn_29 : decode b_Md_turn 29 = .ok (.aload_n 0, 1) := by decide +kernel
theorem d_Md_turn_30 : decode b_Md_turn 30 = .ok (.getfield 63, 3) := by decide +kernel
theorem d_Md_turn_33 : decode b_Md_turn 33 = .ok (.iload_n 2, 1) := by decide +kernel
theorem d_Md_turn_34 : decode b_Md_turn 34 = .ok (.aload_n 0, 1) := by decide +kernel
theorem d_Md_turn_35 : decode b_Md_turn 35 = .ok (.iload_n 2, 1) := by decide +kernel
theorem d_Md_turn_36 : decode b_Md_turn 36 = .ok (.invokevirtual 182, 3) := by decide +kernel
theorem d_Md_turn_39 : decode b_Md_turn 39 = .ok (.ifCond .eq 7, 3) := by decide +kernel
theorem d_Md_turn_42 : decode b_Md_turn 42 = .ok (.iconst 0, 1) := by decide +kernel
theorem d_Md_turn_43 : decode b_Md_turn 43 = .ok (.goto 4, 3) := by decide +kernel
theorem d_Md_turn_46 : decode b_Md_turn 46 = .ok (.iload_n 1, 1) := by decide +kernel
theorem d_Md_turn_47 : decode b_Md_turn 47 = .ok (.iastore, 1) := by decide +kernel
theorem d_Md_turn_48 : decode b_Md_turn 48 = .ok (.iinc 2 (-1), 3) := by decide +kernel
theorem d_Md_turn_51 : decode b_Md_turn 51 = .ok (.goto (-44), 3) := by decide +kernel
theorem d_Md_turn_54 : decode b_Md_turn 54 = .ok (.iload_n 2, 1) := by decide +kernel
theorem d_Md_turn_55 : decode b_Md_turn 55 = .ok (.ifCond .lt 13, 3) := by decide +kernel
theorem d_Md_turn_58 : decode b_Md_turn 58 = .ok (.aload_n 0, 1) := by decide +kernel
theorem d_Md_turn_59 : decode b_Md_turn 59 = .ok (.getfield 63, 3) := by decide +kernel
theorem d_Md_turn_62 : decode b_Md_turn 62 = .ok (.iload_n 2, 1) := by decide +kernel
theorem d_Md_turn_63 : decode b_Md_turn 63 = .ok (.dup2, 1) := by decide +kernel
theorem d_Md_turn_64 : decode b_Md_turn 64 = .ok (.iaload, 1) := by decide +kernel
theorem d_Md_turn_65 : decode b_Md_turn 65 = .ok (.iconst 1, 1) := by decide +kernel
theorem d_Md_turn_66 : decode b_Md_turn 66 = .ok (.iadd, 1) := by decide +kernel
theorem d_Md_turn_67 : decode b_Md_turn 67 = .ok (.iastore, 1) := by decide +kernel
theorem d_Md_turn_68 : decode b_Md_turn 68 = .ok (.iload_n 2, 1) := by decide +kernel
theorem d_Md_turn_69 : decode b_Md_turn 69 = .ok (.ifCond .lt 7, 3) := by decide +kernel
theorem d_Md_turn_72 : decode b_Md_turn 72 = .ok (.iconst 1, 1) := by decide +kernel
theorem d_Md_turn_73 : decode b_Md_turn 73 = .ok (.goto 4, 3) := by decide +kernel
theorem d_Md_turn_76 : decode b_Md_turn 76 = .ok (.iconst 0, 1) := by decide +kernel
theorem d_Md_turn_77 : decode b_Md_turn 77 = .ok (.ireturn, 1) := by decide +kernel
theorem d_Md_packOf_0 : decode b_Md_packOf 0 = .ok (.aload_n 0, 1) := by decide +kernel
theorem d_Md_packOf_1 : decode b_Md_packOf 1 = .ok (.iload_n 1, 1) := by decide +kernel
theorem d_Md_packOf_2 : decode b_Md_packOf 2 = .ok (.invokevirtual 84, 3) := by decide +kernel
theorem d_Md_packOf_5 : decode b_Md_packOf 5 = .ok (.ifCond .eq 12, 3) := by decide +kernel
theorem d_Md_packOf_8 : decode b_Md_packOf 8 = .ok (.aload_n 0, 1) := by decide +kernel
theorem d_Md_packOf_9 : decode b_Md_packOf 9 = .ok (.getfield 60, 3) := by decide +kernel
theorem d_Md_packOf_12 : decode b_Md_packOf 12 = .ok (.iload_n 1, 1) := by decide +kernel
theorem d_Md_packOf_13 : decode b_Md_packOf 13 = .ok (.iaload, 1) := by decide +kernel
theorem d_Md_packOf_14 : decode b_Md_packOf 14 = .ok (.goto 4, 3) := by decide +kernel
theorem d_Md_packOf_17 : decode b_Md_packOf 17 = .ok (.iconst (-1), 1) := by decide +kernel
theorem d_Md_packOf_18 : decode b_Md_packOf 18 = .ok (.ireturn, 1) := by decide +kernel
theorem d_Md_row_0 : decode b_Md_row 0 = .ok (.aload_n 0, 1) := by decide +kernel
theorem d_Md_row_1 : decode b_Md_row 1 = .ok (.getfield 195, 3) := by decide +kernel
theorem d_Md_row_4 : decode b_Md_row 4 = .ok (.bipush 6, 2) := by decide +kernel
theorem d_Md_row_6 : decode b_Md_row 6 = .ok (.if_icmp .eq 49, 3) := by decide +kernel
theorem d_Md_row_9 : decode b_Md_row 9 = .ok (.iload_n 1, 1) := by decide +kernel
theorem d_Md_row_10 : decode b_Md_row 10 = .ok (.i2l, 1) := by decide +kernel
theorem d_Md_row_11 : decode b_Md_row 11 = .ok (.lconst 0, 1) := by decide +kernel
theorem d_Md_row_12 : decode b_Md_row 12 = .ok (.ldc2_w 95, 3) := by decide +kernel
theorem d_Md_row_15 : decode b_Md_row 15 = .ok (.invokestatic 77, 3) := by decide +kernel
theorem d_Md_row_18 : decode b_Md_row 18 = .ok (.ifCond .eq 37, 3) := by decide +kernel
theorem d_Md_row_21 : decode b_Md_row 21 = .ok (.iload_n 2, 1) := by decide +kernel
theorem d_Md_row_22 : decode b_Md_row 22 = .ok (.i2l, 1) := by decide +kernel
theorem d_Md_row_23 : decode b_Md_row 23 = .ok (.lconst 0, 1) := by decide +kernel
theorem d_Md_row_24 : decode b_Md_row 24 = .ok (.ldc2_w 198, 3) := by decide +kernel
theorem d_Md_row_27 : decode b_Md_row 27 = .ok (.invokestatic 77, 3) := by decide +kernel
theorem d_Md_row_30 : decode b_Md_row 30 = .ok (.ifCond .eq 25, 3) := by decide +kernel
theorem d_Md_row_33 : decode b_Md_row 33 = .ok (.aload_n 0, 1) := by decide +kernel
theorem d_Md_row_34 : decode b_Md_row 34 = .ok (.getfield 195, 3) := by decide +kernel
theorem d_Md_row_37 : decode b_Md_row 37 = .ok (.ifCond .le 20, 3) := by decide +kernel
theorem d_Md_row_40 : decode b_Md_row 40 = .ok (.iload_n 1, 1) := by decide +kernel
theorem d_Md_row_41 : decode b_Md_row 41 = .ok (.aload_n 0, 1) := by decide +kernel
theorem d_Md_row_42 : decode b_Md_row 42 = .ok (.getfield 66, 3) := by decide +kernel
theorem d_Md_row_45 : decode b_Md_row 45 = .ok (.aload_n 0, 1) := by decide +kernel
theorem d_Md_row_46 : decode b_Md_row 46 = .ok (.getfield 195, 3) := by decide +kernel
theorem d_Md_row_49 : decode b_Md_row 49 = .ok (.iconst 1, 1) := by decide +kernel
theorem d_Md_row_50 : decode b_Md_row 50 = .ok (.isub, 1) := by decide +kernel
theorem d_Md_row_51 : decode b_Md_row 51 = .ok (.iaload, 1) := by decide +kernel
theorem d_Md_row_52 : decode b_Md_row 52 = .ok (.if_icmp .gt 5, 3) := by decide +kernel
theorem d_Md_row_55 : decode b_Md_row 55 = .ok (.iconst 0, 1) := by decide +kernel
theorem d_Md_row_56 : decode b_Md_row 56 = .ok (.ireturn, 1) := by decide +kernel
theorem d_Md_row_57 : decode b_Md_row 57 = .ok (.aload_n 0, 1) := by decide +kernel
theorem d_Md_row_58 : decode b_Md_row 58 = .ok (.getfield 66, 3) := by decide +kernel
theorem d_Md_row_61 : decode b_Md_row 61 = .ok (.aload_n 0, 1) := by decide +kernel
theorem d_Md_row_62 : decode b_Md_row 62 = .ok (.getfield 195, 3) := by decide +kernel
theorem d_Md_row_65 : decode b_Md_row 65 = .ok (.iload_n 1, 1) := by decide +kernel
theorem d_Md_row_66 : decode b_Md_row 66 = .ok (.iastore, 1) := by decide +kernel
theorem d_Md_row_67 : decode b_Md_row 67 = .ok (.aload_n 0, 1) := by decide +kernel
theorem d_Md_row_68 : decode b_Md_row 68 = .ok (.getfield 69, 3) := by decide +kernel
theorem d_Md_row_71 : decode b_Md_row 71 = .ok (.aload_n 0, 1) := by decide +kernel
theorem d_Md_row_72 : decode b_Md_row 72 = .ok (.getfield 195, 3) := by decide +kernel
theorem d_Md_row_75 : decode b_Md_row 75 = .ok (.iload_n 2, 1) := by decide +kernel
theorem d_Md_row_76 : decode b_Md_row 76 = .ok (.iastore, 1) := by decide +kernel
theorem d_Md_row_77 : decode b_Md_row 77 = .ok (.aload_n 0, 1) := by decide +kernel
theorem d_Md_row_78 : decode b_Md_row 78 = .ok (.dup, 1) := by decide +kernel
theorem d_Md_row_79 : decode b_Md_row 79 = .ok (.getfield 195, 3) := by decide +kernel
theorem d_Md_row_82 : decode b_Md_row 82 = .ok (.iconst 1, 1) := by decide +kernel
theorem d_Md_row_83 : decode b_Md_row 83 = .ok (.iadd, 1) := by decide +kernel
theorem d_Md_row_84 : decode b_Md_row 84 = .ok (.putfield 195, 3) := by decide +kernel
theorem d_Md_row_87 : decode b_Md_row 87 = .ok (.iconst 1, 1) := by decide +kernel
theorem d_Md_row_88 : decode b_Md_row 88 = .ok (.ireturn, 1) := by decide +kernel
theorem d_Md_fade_0 : decode b_Md_fade 0 = .ok (.aload_n 0, 1) := by decide +kernel
theorem d_Md_fade_1 : decode b_Md_fade 1 = .ok (.iload_n 1, 1) := by decide +kernel
theorem d_Md_fade_2 : decode b_Md_fade 2 = .ok (.invokevirtual 84, 3) := by decide +kernel
theorem d_Md_fade_5 : decode b_Md_fade 5 = .ok (.ifCond .eq 15, 3) := by decide +kernel
theorem d_Md_fade_8 : decode b_Md_fade 8 = .ok (.iload_n 2, 1) := by decide +kernel
theorem d_Md_fade_9 : decode b_Md_fade 9 = .ok (.i2l, 1) := by decide +kernel
theorem d_Md_fade_10 : decode b_Md_fade 10 = .ok (.lconst 0, 1) := by decide +kernel
theorem d_Md_fade_11 : decode b_Md_fade 11 = .ok (.ldc2_w 95, 3) := by decide +kernel
theorem d_Md_fade_14 : decode b_Md_fade 14 = .ok (.invokestatic 77, 3) := by decide +kernel
theorem d_Md_fade_17 : decode b_Md_fade 17 = .ok (.ifCond .ne 7, 3) := by decide +kernel
theorem d_Md_fade_20 : decode b_Md_fade 20 = .ok (.ldc2_w 97, 3) := by decide +kernel
theorem d_Md_fade_23 : decode b_Md_fade 23 = .ok (.lreturn, 1) := by decide +kernel
theorem d_Md_fade_24 : decode b_Md_fade 24 = .ok (.aload_n 0, 1) := by decide +kernel
theorem d_Md_fade_25 : decode b_Md_fade 25 = .ok (.iload_n 1, 1) := by decide +kernel
theorem d_Md_fade_26 : decode b_Md_fade 26 = .ok (.invokevirtual 161, 3) := by decide +kernel
theorem d_Md_fade_29 : decode b_Md_fade 29 = .ok (.lstore_n 3, 1) := by decide +kernel
theorem d_Md_fade_30 : decode b_Md_fade 30 = .ok (.iconst 0, 1) := by decide +kernel
theorem d_Md_fade_31 : decode b_Md_fade 31 = .ok (.istore 5, 2) := by decide +kernel
theorem d_Md_fade_33 : decode b_Md_fade 33 = .ok (.iload 5, 2) := by decide +kernel
theorem d_Md_fade_35 : decode b_Md_fade 35 = .ok (.iload_n 2, 1) := by decide +kernel
theorem d_Md_fade_36 : decode b_Md_fade 36 = .ok (.if_icmp .ge 68, 3) := by decide +kernel
theorem d_Md_fade_39 : decode b_Md_fade 39 = .ok (.lconst 0, 1) := by decide +kernel
theorem d_Md_fade_40 : decode b_Md_fade 40 = .ok (.lstore 6, 2) := by decide +kernel
theorem d_Md_fade_42 : decode b_Md_fade 42 = .ok (.iconst 0, 1) := by decide +kernel
theorem d_Md_fade_43 : decode b_Md_fade 43 = .ok (.istore 8, 2) := by decide +kernel
theorem d_Md_fade_45 : decode b_Md_fade 45 = .ok (.iload 8, 2) := by decide +kernel
theorem d_Md_fade_47 : decode b_Md_fade 47 = .ok (.aload_n 0, 1) := by decide +kernel
theorem d_Md_fade_48 : decode b_Md_fade 48 = .ok (.getfield 195, 3) := by decide +kernel
theorem d_Md_fade_51 : decode b_Md_fade 51 = .ok (.if_icmp .ge 36, 3) := by decide +kernel
theorem d_Md_fade_54 : decode b_Md_fade 54 = .ok (.aload_n 0, 1) := by decide +kernel
theorem d_Md_fade_55 : decode b_Md_fade 55 = .ok (.getfield 66, 3) := by decide +kernel
theorem d_Md_fade_58 : decode b_Md_fade 58 = .ok (.iload 8, 2) := by decide +kernel
theorem d_Md_fade_60 : decode b_Md_fade 60 = .ok (.iaload, 1) := by decide +kernel
theorem d_Md_fade_61 : decode b_Md_fade 61 = .ok (.iload 5, 2) := by decide +kernel
theorem d_Md_fade_63 : decode b_Md_fade 63 = .ok (.if_icmp .gt 14, 3) := by decide +kernel
theorem d_Md_fade_66 : decode b_Md_fade 66 = .ok (.aload_n 0, 1) := by decide +kernel
theorem d_Md_fade_67 : decode b_Md_fade 67 = .ok (.getfield 69, 3) := by decide +kernel
theorem d_Md_fade_70 : decode b_Md_fade 70 = .ok (.iload 8, 2) := by decide +kernel
theorem d_Md_fade_72 : decode b_Md_fade 72 = .ok (.iaload, 1) := by decide +kernel
theorem d_Md_fade_73 : decode b_Md_fade 73 = .ok (.i2l, 1) := by decide +kernel
theorem d_Md_fade_74 : decode b_Md_fade 74 = .ok (.goto 5, 3) := by decide +kernel
theorem d_Md_fade_77 : decode b_Md_fade 77 = .ok (.lload 6, 2) := by decide +kernel
theorem d_Md_fade_79 : decode b_Md_fade 79 = .ok (.lstore 6, 2) := by decide +kernel
theorem d_Md_fade_81 : decode b_Md_fade 81 = .ok (.iinc 8 1, 3) := by decide +kernel
theorem d_Md_fade_84 : decode b_Md_fade 84 = .ok (.goto (-39), 3) := by decide +kernel
theorem d_Md_fade_87 : decode b_Md_fade 87 = .ok (.lload_n 3, 1) := by decide +kernel
theorem d_Md_fade_88 : decode b_Md_fade 88 = .ok (.lload_n 3, 1) := by decide +kernel
theorem d_Md_fade_89 : decode b_Md_fade 89 = .ok (.lload 6, 2) := by decide +kernel
theorem d_Md_fade_91 : decode b_Md_fade 91 = .ok (.lmul, 1) := by decide +kernel
theorem d_Md_fade_92 : decode b_Md_fade 92 = .ok (.ldc2_w 198, 3) := by decide +kernel
theorem d_Md_fade_95 : decode b_Md_fade 95 = .ok (.ldiv, 1) := by decide +kernel
theorem d_Md_fade_96 : decode b_Md_fade 96 = .ok (.lsub, 1) := by decide +kernel
theorem d_Md_fade_97 : decode b_Md_fade 97 = .ok (.lstore_n 3, 1) := by decide +kernel
theorem d_Md_fade_98 : decode b_Md_fade 98 = .ok (.iinc 5 1, 3) := by decide +kernel
theorem d_Md_fade_101 : decode b_Md_fade 101 = .ok (.goto (-68), 3) := by decide +kernel
theorem d_Md_fade_104 : decode b_Md_fade 104 = .ok (.lload_n 3, 1) := by decide +kernel
theorem d_Md_fade_105 : decode b_Md_fade 105 = .ok (.lreturn, 1) := by decide +kernel
theorem d_Md_record_0 : decode b_Md_record 0 = .ok (.aload_n 0, 1) := by decide +kernel
theorem d_Md_record_1 : decode b_Md_record 1 = .ok (.iload_n 1, 1) := by decide +kernel
theorem d_Md_record_2 : decode b_Md_record 2 = .ok (.invokevirtual 84, 3) := by decide +kernel
theorem d_Md_record_5 : decode b_Md_record 5 = .ok (.ifCond .eq 7, 3) := by decide +kernel
theorem d_Md_record_8 : decode b_Md_record 8 = .ok (.iload_n 2, 1) := by decide +kernel
theorem d_Md_record_9 : decode b_Md_record 9 = .ok (.ifCond .ge 5, 3) := by decide +kernel
theorem d_Md_record_12 : decode b_Md_record 12 = .ok (.iconst (-1), 1) := by decide +kernel
theorem d_Md_record_13 : decode b_Md_record 13 = .ok (.ireturn, 1) := by decide +kernel
theorem d_Md_record_14 : decode b_Md_record 14 = .ok (.aload_n 0, 1) := by decide +kernel
theorem d_Md_record_15 : decode b_Md_record 15 = .ok (.iload_n 2, 1) := by decide +kernel
theorem d_Md_record_16 : decode b_Md_record 16 = .ok (.putfield 200, 3) := by decide +kernel
theorem d_Md_record_19 : decode b_Md_record 19 = .ok (.aload_n 0, 1) := by decide +kernel
theorem d_Md_record_20 : decode b_Md_record 20 = .ok (.iconst (-1), 1) := by decide +kernel
theorem d_Md_record_21 : decode b_Md_record 21 = .ok (.putfield 203, 3) := by decide +kernel
theorem d_Md_record_24 : decode b_Md_record 24 = .ok (.aload_n 0, 1) := by decide +kernel
theorem d_Md_record_25 : decode b_Md_record 25 = .ok (.iload_n 1, 1) := by decide +kernel
theorem d_Md_record_26 : decode b_Md_record 26 = .ok (.i2l, 1) := by decide +kernel
theorem d_Md_record_27 : decode b_Md_record 27 = .ok (.invokevirtual 216, 3) := by decide +kernel
theorem d_Md_record_30 : decode b_Md_record 30 = .ok (.aload_n 0, 1) := by decide +kernel
theorem d_Md_record_31 : decode b_Md_record 31 = .ok (.bipush 32, 2) := by decide +kernel
theorem d_Md_record_33 : decode b_Md_record 33 = .ok (.invokevirtual 206, 3) := by decide +kernel
theorem d_Md_record_36 : decode b_Md_record 36 = .ok (.aload_n 0, 1) := by decide +kernel
theorem d_Md_record_37 : decode b_Md_record 37 = .ok (.aload_n 0, 1) := by decide +kernel
theorem d_Md_record_38 : decode b_Md_record 38 = .ok (.iload_n 1, 1) := by decide +kernel
theorem d_Md_record_39 : decode b_Md_record 39 = .ok (.invokevirtual 161, 3) := by decide +kernel
theorem d_Md_record_42 : decode b_Md_record 42 = .ok (.invokevirtual 216, 3) := by decide +kernel
theorem d_Md_record_45 : decode b_Md_record 45 = .ok (.aload_n 0, 1) := by decide +kernel
theorem d_Md_record_46 : decode b_Md_record 46 = .ok (.bipush 32, 2) := by decide +kernel
theorem d_Md_record_48 : decode b_Md_record 48 = .ok (.invokevirtual 206, 3) := by decide +kernel
theorem d_Md_record_51 : decode b_Md_record 51 = .ok (.aload_n 0, 1) := by decide +kernel
theorem d_Md_record_52 : decode b_Md_record 52 = .ok (.aload_n 0, 1) := by decide +kernel
theorem d_Md_record_53 : decode b_Md_record 53 = .ok (.iload_n 1, 1) := by decide +kernel
theorem d_Md_record_54 : decode b_Md_record 54 = .ok (.invokevirtual 220, 3) := by decide +kernel
theorem d_Md_record_57 : decode b_Md_record 57 = .ok (.i2l, 1) := by decide +kernel
theorem d_Md_record_58 : decode b_Md_record 58 = .ok (.invokevirtual 216, 3) := by decide +kernel
theorem d_Md_record_61 : decode b_Md_record 61 = .ok (.aload_n 0, 1) := by decide +kernel
theorem d_Md_record_62 : decode b_Md_record 62 = .ok (.getfield 203, 3) := by decide +kernel
theorem d_Md_record_65 : decode b_Md_record 65 = .ok (.ireturn, 1) := by decide +kernel
theorem d_Md_putNumber_0 : decode b_Md_putNumber 0 = .ok (.lload_n 1, 1) := by decide +kernel
theorem d_Md_putNumber_1 : decode b_Md_putNumber 1 = .ok (.lconst 0, 1) := by decide +kernel
theorem d_Md_putNumber_2 : decode b_Md_putNumber 2 = .ok (.lcmp, 1) := by decide +kernel
theorem d_Md_putNumber_3 : decode b_Md_putNumber 3 = .ok (.ifCond .ge 8, 3) := by decide +kernel
theorem d_Md_putNumber_6 : decode b_Md_putNumber 6 = .ok (.lload_n 1, 1) := by decide +kernel
theorem d_Md_putNumber_7 : decode b_Md_putNumber 7 = .ok (.lneg, 1) := by decide +kernel
theorem d_Md_putNumber_8 : decode b_Md_putNumber 8 = .ok (.goto 4, 3) := by decide +kernel
theorem d_Md_putNumber_11 : decode b_Md_putNumber 11 = .ok (.lload_n 1, 1) := by decide +kernel
theorem d_Md_putNumber_12 : decode b_Md_putNumber 12 = .ok (.lstore_n 3, 1) := by decide +kernel
theorem d_Md_putNumber_13 : decode b_Md_putNumber 13 = .ok (.lload_n 1, 1) := by decide +kernel
theorem d_Md_putNumber_14 : decode b_Md_putNumber 14 = .ok (.lconst 0, 1) := by decide +kernel
theorem d_Md_putNumber_15 : decode b_Md_putNumber 15 = .ok (.lcmp, 1) := by decide +kernel
theorem d_Md_putNumber_16 : decode b_Md_putNumber 16 = .ok (.ifCond .ge 9, 3) := by decide +kernel
theorem d_Md_putNumber_19 : decode b_Md_putNumber 19 = .ok (.aload_n 0, 1) := by decide +kernel
theorem d_Md_putNumber_20 : decode b_Md_putNumber 20 = .ok (.bipush 45, 2) := by decide +kernel
theorem d_Md_putNumber_22 : decode b_Md_putNumber 22 = .ok (.invokevirtual 206, 3) := by decide +kernel
theorem d_Md_putNumber_25 : decode b_Md_putNumber 25 = .ok (.lconst 1, 1) := by decide +kernel
theorem d_Md_putNumber_26 : decode b_Md_putNumber 26 = .ok (.lstore 5, 2) := by decide +kernel
theorem d_Md_putNumber_28 : decode b_Md_putNumber 28 = .ok (.lload_n 3, 1) := by decide +kernel
theorem d_Md_putNumber_29 : decode b_Md_putNumber 29 = .ok (.lload 5, 2) := by decide +kernel
theorem d_Md_putNumber_31 : decode b_Md_putNumber 31 = .ok (.ldiv, 1) := by decide +kernel
theorem d_Md_putNumber_32 : decode b_Md_putNumber 32 = .ok (.ldc2_w 210, 3) := by decide +kernel
theorem d_Md_putNumber_35 : decode b_Md_putNumber 35 = .ok (.lcmp, 1) := by decide +kernel
theorem d_Md_putNumber_36 : decode b_Md_putNumber 36 = .ok (.ifCond .le 14, 3) := by decide +kernel
theorem d_Md_putNumber_39 : decode b_Md_putNumber 39 = .ok (.lload 5, 2) := by decide +kernel
theorem d_Md_putNumber_41 : decode b_Md_putNumber 41 = .ok (.ldc2_w 212, 3) := by decide +kernel
theorem d_Md_putNumber_44 : decode b_Md_putNumber 44 = .ok (.lmul, 1) := by decide +kernel
theorem d_Md_putNumber_45 : decode b_Md_putNumber 45 = .ok (.lstore 5, 2) := by decide +kernel
theorem d_Md_putNumber_47 : decode b_Md_putNumber 47 = .ok (.goto (-19), 3) := by decide +kernel
theorem d_Md_putNumber_50 : decode b_Md_putNumber 50 = .ok (.lload 5, 2) := by decide +kernel
theorem d_Md_putNumber_52 : decode b_Md_putNumber 52 = .ok (.lconst 0, 1) := by decide +kernel
theorem d_Md_putNumber_53 : decode b_Md_putNumber 53 = .ok (.lcmp, 1) := by decide +kernel
theorem d_Md_putNumber_54 : decode b_Md_putNumber 54 = .ok (.ifCond .le 31, 3) := by decide +kernel
theorem d_Md_putNumber_57 : decode b_Md_putNumber 57 = .ok (.aload_n 0, 1) := by decide +kernel
theorem d_Md_putNumber_58 : decode b_Md_putNumber 58 = .ok (.ldc2_w 214, 3) := by decide +kernel
theorem d_Md_putNumber_61 : decode b_Md_putNumber 61 = .ok (.lload_n 3, 1) := by decide +kernel
theorem d_Md_putNumber_62 : decode b_Md_putNumber 62 = .ok (.lload 5, 2) := by decide +kernel
theorem d_Md_putNumber_64 : decode b_Md_putNumber 64 = .ok (.ldiv, 1) := by decide +kernel
theorem d_Md_putNumber_65 : decode b_Md_putNumber 65 = .ok (.ldc2_w 212, 3) := by decide +kernel
theorem d_Md_putNumber_68 : decode b_Md_putNumber 68 = .ok (.lrem, 1) := by decide +kernel
theorem d_Md_putNumber_69 : decode b_Md_putNumber 69 = .ok (.ladd, 1) := by decide +kernel
theorem d_Md_putNumber_70 : decode b_Md_putNumber 70 = .ok (.l2i, 1) := by decide +kernel
theorem d_Md_putNumber_71 : decode b_Md_putNumber 71 = .ok (.invokevirtual 206, 3) := by decide +kernel
theorem d_Md_putNumber_74 : decode b_Md_putNumber 74 = .ok (.lload 5, 2) := by decide +kernel
theorem d_Md_putNumber_76 : decode b_Md_putNumber 76 = .ok (.ldc2_w 212, 3) := by decide +kernel
theorem d_Md_putNumber_79 : decode b_Md_putNumber 79 = .ok (.ldiv, 1) := by decide +kernel
theorem d_Md_putNumber_80 : decode b_Md_putNumber 80 = .ok (.lstore 5, 2) := by decide +kernel
theorem d_Md_putNumber_82 : decode b_Md_putNumber 82 = .ok (.goto (-32), 3) := by decide +kernel
theorem d_Md_putNumber_85 : decode b_Md_putNumber 85 = .ok (.return_, 1) := by decide +kernel
theorem d_Md_put_0 : decode b_Md_put 0 = .ok (.aload_n 0, 1) := by decide +kernel
theorem d_Md_put_1 : decode b_Md_put 1 = .ok (.aload_n 0, 1) := by decide +kernel
theorem d_Md_put_2 : decode b_Md_put 2 = .ok (.getfield 200, 3) := by decide +kernel
theorem d_Md_put_5 : decode b_Md_put 5 = .ok (.ifCond .ne 7, 3) := by decide +kernel
theorem d_Md_put_8 : decode b_Md_put 8 = .ok (.iload_n 1, 1) := by decide +kernel
theorem d_Md_put_9 : decode b_Md_put 9 = .ok (.goto 7, 3) := by decide +kernel
theorem d_Md_put_12 : decode b_Md_put 12 = .ok (.aload_n 0, 1) := by decide +kernel
theorem d_Md_put_13 : decode b_Md_put 13 = .ok (.getfield 203, 3) := by decide +kernel
theorem d_Md_put_16 : decode b_Md_put 16 = .ok (.putfield 203, 3) := by decide +kernel
theorem d_Md_put_19 : decode b_Md_put 19 = .ok (.aload_n 0, 1) := by decide +kernel
theorem d_Md_put_20 : decode b_Md_put 20 = .ok (.dup, 1) := by decide +kernel
theorem d_Md_put_21 : decode b_Md_put 21 = .ok (.getfield 200, 3) := by decide +kernel
theorem d_Md_put_24 : decode b_Md_put 24 = .ok (.iconst 1, 1) := by decide +kernel
theorem d_Md_put_25 : decode b_Md_put 25 = .ok (.isub, 1) := by decide +kernel
theorem d_Md_put_26 : decode b_Md_put 26 = .ok (.putfield 200, 3) := by decide +kernel
theorem d_Md_put_29 : decode b_Md_put 29 = .ok (.return_, 1) := by decide +kernel
