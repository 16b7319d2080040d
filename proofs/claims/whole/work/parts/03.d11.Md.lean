theorem d_Md_rules_87 : decode b_Md_rules 87 = .ok (.if_icmp .le 7, 3) := by decide +kernel
theorem d_Md_rules_90 : decode b_Md_rules 90 = .ok (.iconst 1, 1) := by decide +kernel
theorem d_Md_rules_91 : decode b_Md_rules 91 = .ok (.goto 4, 3) := by decide +kernel
theorem d_Md_rules_94 : decode b_Md_rules 94 = .ok (.iconst 0, 1) := by decide +kernel
theorem d_Md_rules_95 : decode b_Md_rules 95 = .ok (.istore 5, 2) := by decide +kernel
theorem d_Md_rules_97 : decode b_Md_rules 97 = .ok (.goto 73, 3) := by decide +kernel
theorem d_Md_rules_100 : decode b_Md_rules 100 = .ok (.iload 4, 2) := by decide +kernel
theorem d_Md_rules_102 : decode b_Md_rules 102 = .ok (.ldc 132, 2) := by decide +kernel
theorem d_Md_rules_104 : decode b_Md_rules 104 = .ok (.if_icmp .le 25, 3) := by decide +kernel
theorem d_Md_rules_107 : decode b_Md_rules 107 = .ok (.iload 4, 2) := by decide +kernel
theorem d_Md_rules_109 : decode b_Md_rules 109 = .ok (.aload_n 0, 1) := by decide +kernel
theorem d_Md_rules_110 : decode b_Md_rules 110 = .ok (.getfield 57, 3) := by decide +kernel
theorem d_Md_rules_113 : decode b_Md_rules 113 = .ok (.iconst 3, 1) := by decide +kernel
theorem d_Md_rules_114 : decode b_Md_rules 114 = .ok (.aload_n 0, 1) := by decide +kernel
theorem d_Md_rules_115 : decode b_Md_rules 115 = .ok (.getfield 136, 3) := by decide +kernel
theorem d_Md_rules_118 : decode b_Md_rules 118 = .ok (.imul, 1) := by decide +kernel
theorem d_Md_rules_119 : decode b_Md_rules 119 = .ok (.iconst 1, 1) := by decide +kernel
theorem d_Md_rules_120 : decode b_Md_rules 120 = .ok (.iadd, 1) := by decide +kernel
theorem d_Md_rules_121 : decode b_Md_rules 121 = .ok (.iaload, 1) := by decide +kernel
theorem d_Md_rules_122 : decode b_Md_rules 122 = .ok (.if_icmp .lt 7, 3) := by decide +kernel
theorem d_Md_rules_125 : decode b_Md_rules 125 = .ok (.iconst 1, 1) := by decide +kernel
theorem d_Md_rules_126 : decode b_Md_rules 126 = .ok (.goto 4, 3) := by decide +kernel
theorem d_Md_rules_129 : decode b_Md_rules 129 = .ok (.iconst 0, 1) := by decide +kernel
theorem d_Md_rules_130 : decode b_Md_rules 130 = .ok (.istore 5, 2) := by decide +kernel
theorem d_Md_rules_132 : decode b_Md_rules 132 = .ok (.goto 38, 3) := by decide +kernel
theorem d_Md_rules_135 : decode b_Md_rules 135 = .ok (.aload_n 0, 1) := by decide +kernel
theorem d_Md_rules_136 : decode b_Md_rules 136 = .ok (.invokevirtual 149, 3) := by decide +kernel
theorem d_Md_rules_139 : decode b_Md_rules 139 = .ok (.ifCond .eq 12, 3) := by decide +kernel
theorem d_Md_rules_142 : decode b_Md_rules 142 = .ok (.aload_n 0, 1) := by decide +kernel
theorem d_Md_rules_143 : decode b_Md_rules 143 = .ok (.getfield 133, 3) := by decide +kernel
theorem d_Md_rules_146 : decode b_Md_rules 146 = .ok (.bipush 20, 2) := by decide +kernel
theorem d_Md_rules_148 : decode b_Md_rules 148 = .ok (.if_icmp .lt 15, 3) := by decide +kernel
theorem d_Md_rules_151 : decode b_Md_rules 151 = .ok (.iload_n 2, 1) := by decide +kernel
theorem d_Md_rules_152 : decode b_Md_rules 152 = .ok (.iconst 2, 1) := by decide +kernel
theorem d_Md_rules_153 : decode b_Md_rules 153 = .ok (.if_icmp .ne 14, 3) := by decide +kernel
theorem d_Md_rules_156 : decode b_Md_rules 156 = .ok (.aload_n 0, 1) := by decide +kernel
theorem d_Md_rules_157 : decode b_Md_rules 157 = .ok (.invokevirtual 152, 3) := by decide +kernel
theorem d_Md_rules_160 : decode b_Md_rules 160 = .ok (.ifCond .eq 7, 3) := by decide +kernel
theorem d_Md_rules_163 : decode b_Md_rules 163 = .ok (.iconst 1, 1) := by decide +kernel
theorem d_Md_rules_164 : decode b_Md_rules 164 = .ok (.goto 4, 3) := by decide +kernel
theorem d_Md_rules_167 : decode b_Md_rules 167 = .ok (.iconst 0, 1) := by decide +kernel
theorem d_Md_rules_168 : decode b_Md_rules 168 = .ok (.istore 5, 2) := by decide +kernel
theorem d_Md_rules_170 : decode b_Md_rules 170 = .ok (.iload 5, 2) := by decide +kernel
theorem d_Md_rules_172 : decode b_Md_rules 172 = .ok (.ifCond .eq 17, 3) := by decide +kernel
theorem d_Md_rules_175 : decode b_Md_rules 175 = .ok (.aload_n 0, 1) := by decide +kernel
theorem d_Md_rules_176 : decode b_Md_rules 176 = .ok (.iload_n 2, 1) := by decide +kernel
theorem d_Md_rules_177 : decode b_Md_rules 177 = .ok (.iload 4, 2) := by decide +kernel
theorem d_Md_rules_179 : decode b_Md_rules 179 = .ok (.invokevirtual 155, 3) := by decide +kernel
theorem d_Md_rules_182 : decode b_Md_rules 182 = .ok (.istore_n 2, 1) := by decide +kernel
theorem d_Md_rules_183 : decode b_Md_rules 183 = .ok (.iinc 1 1, 3) := by decide +kernel
theorem d_Md_rules_186 : decode b_Md_rules 186 = .ok (.goto 5, 3) := by decide +kernel
theorem d_Md_rules_189 : decode b_Md_rules 189 = .ok (.iload_n 1, 1) := by decide +kernel
theorem d_Md_rules_190 : decode b_Md_rules 190 = .ok (.istore_n 3, 1) := by decide +kernel
theorem d_Md_rules_191 : decode b_Md_rules 191 = .ok (.goto (-170), 3) := by decide +kernel
theorem d_Md_rules_194 : decode b_Md_rules 194 = .ok (.aload_n 0, 1) := by decide +kernel
theorem d_Md_rules_195 : decode b_Md_rules 195 = .ok (.iconst 0, 1) := by decide +kernel
theorem d_Md_rules_196 : decode b_Md_rules 196 = .ok (.putfield 121, 3) := by decide +kernel
theorem d_Md_rules_199 : decode b_Md_rules 199 = .ok (.iload_n 3, 1) := by decide +kernel
theorem d_Md_rules_200 : decode b_Md_rules 200 = .ok (.ifCond .ge 14, 3) := by decide +kernel
theorem d_Md_rules_203 : decode b_Md_rules 203 = .ok (.iload_n 2, 1) := by decide +kernel
theorem d_Md_rules_204 : decode b_Md_rules 204 = .ok (.ifCond .eq 10, 3) := by decide +kernel
theorem d_Md_rules_207 : decode b_Md_rules 207 = .ok (.iload_n 2, 1) := by decide +kernel
theorem d_Md_rules_208 : decode b_Md_rules 208 = .ok (.iconst 2, 1) := by decide +kernel
theorem d_Md_rules_209 : decode b_Md_rules 209 = .ok (.if_icmp .eq 5, 3) := by decide +kernel
theorem d_Md_rules_212 : decode b_Md_rules 212 = .ok (.iload_n 1, 1) := by decide +kernel
theorem d_Md_rules_213 : decode b_Md_rules 213 = .ok (.istore_n 3, 1) := by decide +kernel
theorem d_Md_rules_214 : decode b_Md_rules 214 = .ok (.iload_n 3, 1) := by decide +kernel
theorem d_Md_rules_215 : decode b_Md_rules 215 = .ok (.ifCond .lt 7, 3) := by decide +kernel
theorem d_Md_rules_218 : decode b_Md_rules 218 = .ok (.iconst (-1), 1) := by decide +kernel
theorem d_Md_rules_219 : decode b_Md_rules 219 = .ok (.iload_n 3, 1) := by decide +kernel
theorem d_Md_rules_220 : decode b_Md_rules 220 = .ok (.isub, 1) := by decide +kernel
theorem d_Md_rules_221 : decode b_Md_rules 221 = .ok (.ireturn, 1) := by decide +kernel
theorem d_Md_rules_222 : decode b_Md_rules 222 = .ok (.aload_n 0, 1) := by decide +kernel
theorem d_Md_rules_223 : decode b_Md_rules 223 = .ok (.aload_n 0, 1) := by decide +kernel
theorem d_Md_rules_224 : decode b_Md_rules 224 = .ok (.getfield 133, 3) := by decide +kernel
theorem d_Md_rules_227 : decode b_Md_rules 227 = .ok (.putfield 158, 3) := by decide +kernel
theorem d_Md_rules_230 : decode b_Md_rules 230 = .ok (.aload_n 0, 1) := by decide +kernel
theorem d_Md_rules_231 : decode b_Md_rules 231 = .ok (.getfield 54, 3) := by decide +kernel
theorem d_Md_rules_234 : decode b_Md_rules 234 = .ok (.aload_n 0, 1) := by decide +kernel
theorem d_Md_rules_235 : decode b_Md_rules 235 = .ok (.getfield 158, 3) := by decide +kernel
theorem d_Md_rules_238 : decode b_Md_rules 238 = .ok (.aload_n 0, 1) := by decide +kernel
theorem d_Md_rules_239 : decode b_Md_rules 239 = .ok (.getfield 136, 3) := by decide +kernel
theorem d_Md_rules_242 : decode b_Md_rules 242 = .ok (.iastore, 1) := by decide +kernel
theorem d_Md_rules_243 : decode b_Md_rules 243 = .ok (.iconst 0, 1) := by decide +kernel
theorem d_Md_rules_244 : decode b_Md_rules 244 = .ok (.istore 4, 2) := by decide +kernel
theorem d_Md_rules_246 : decode b_Md_rules 246 = .ok (.iload 4, 2) := by decide +kernel
theorem d_Md_rules_248 : decode b_Md_rules 248 = .ok (.aload_n 0, 1) := by decide +kernel
theorem d_Md_rules_249 : decode b_Md_rules 249 = .ok (.getfield 158, 3) := by decide +kernel
theorem d_Md_rules_252 : decode b_Md_rules 252 = .ok (.if_icmp .ge 23, 3) := by decide +kernel
theorem d_Md_rules_255 : decode b_Md_rules 255 = .ok (.aload_n 0, 1) := by decide +kernel
theorem d_Md_rules_256 : decode b_Md_rules 256 = .ok (.getfield 42, 3) := by decide +kernel
theorem d_Md_rules_259 : decode b_Md_rules 259 = .ok (.iload 4, 2) := by decide +kernel
theorem d_Md_rules_261 : decode b_Md_rules 261 = .ok (.aload_n 0, 1) := by decide +kernel
theorem d_Md_rules_262 : decode b_Md_rules 262 = .ok (.getfield 51, 3) := by decide +kernel
theorem d_Md_rules_265 : decode b_Md_rules 265 = .ok (.iload 4, 2) := by decide +kernel
theorem d_Md_rules_267 : decode b_Md_rules 267 = .ok (.iaload, 1) := by decide +kernel
theorem d_Md_rules_268 : decode b_Md_rules 268 = .ok (.iastore, 1) := by decide +kernel
theorem d_Md_rules_269 : decode b_Md_rules 269 = .ok (.iinc 4 1, 3) := by decide +kernel
theorem d_Md_rules_272 : decode b_Md_rules 272 = .ok (.goto (-26), 3) := by decide +kernel
theorem d_Md_rules_275 : decode b_Md_rules 275 = .ok (.iconst 0, 1) := by decide +kernel
theorem d_Md_rules_276 : decode b_Md_rules 276 = .ok (.istore 4, 2) := by decide +kernel
theorem d_Md_rules_278 : decode b_Md_rules 278 = .ok (.iload 4, 2) := by decide +kernel
theorem d_Md_rules_280 : decode b_Md_rules 280 = .ok (.aload_n 0, 1) := by decide +kernel
theorem d_Md_rules_281 : decode b_Md_rules 281 = .ok (.getfield 158, 3) := by decide +kernel
theorem d_Md_rules_284 : decode b_Md_rules 284 = .ok (.if_icmp .gt 23, 3) := by decide +kernel
theorem d_Md_rules_287 : decode b_Md_rules 287 = .ok (.aload_n 0, 1) := by decide +kernel
theorem d_Md_rules_288 : decode b_Md_rules 288 = .ok (.getfield 45, 3) := by decide +kernel
theorem d_Md_rules_291 : decode b_Md_rules 291 = .ok (.iload 4, 2) := by decide +kernel
theorem d_Md_rules_293 : decode b_Md_rules 293 = .ok (.aload_n 0, 1) := by decide +kernel
theorem d_Md_rules_294 : decode b_Md_rules 294 = .ok (.getfield 54, 3) := by decide +kernel
theorem d_Md_rules_297 : decode b_Md_rules 297 = .ok (.iload 4, 2) := by decide +kernel
theorem d_Md_rules_299 : decode b_Md_rules 299 = .ok (.iaload, 1) := by decide +kernel
theorem d_Md_rules_300 : decode b_Md_rules 300 = .ok (.iastore, 1) := by decide +kernel
theorem d_Md_rules_301 : decode b_Md_rules 301 = .ok (.iinc 4 1, 3) := by decide +kernel
theorem d_Md_rules_304 : decode b_Md_rules 304 = .ok (.goto (-26), 3) := by decide +kernel
theorem d_Md_rules_307 : decode b_Md_rules 307 = .ok (.iconst 0, 1) := by decide +kernel
theorem d_Md_rules_308 : decode b_Md_rules 308 = .ok (.istore 4, 2) := by decide +kernel
theorem d_Md_rules_310 : decode b_Md_rules 310 = .ok (.iload 4, 2) := by decide +kernel
theorem d_Md_rules_312 : decode b_Md_rules 312 = .ok (.iconst 3, 1) := by decide +kernel
theorem d_Md_rules_313 : decode b_Md_rules 313 = .ok (.aload_n 0, 1) := by decide +kernel
theorem d_Md_rules_314 : decode b_Md_rules 314 = .ok (.getfield 136, 3) := by decide +kernel
theorem d_Md_rules_317 : decode b_Md_rules 317 = .ok (.imul, 1) := by decide +kernel
theorem d_Md_rules_318 : decode b_Md_rules 318 = .ok (.if_icmp .ge 23, 3) := by decide +kernel
theorem d_Md_rules_321 : decode b_Md_rules 321 = .ok (.aload_n 0, 1) := by decide +kernel
theorem d_Md_rules_322 : decode b_Md_rules 322 = .ok (.getfield 48, 3) := by decide +kernel
theorem d_Md_rules_325 : decode b_Md_rules 325 = .ok (.iload 4, 2) := by decide +kernel
theorem d_Md_rules_327 : decode b_Md_rules 327 = .ok (.aload_n 0, 1) := by decide +kernel
theorem d_Md_rules_328 : decode b_Md_rules 328 = .ok (.getfield 57, 3) := by decide +kernel
theorem d_Md_rules_331 : decode b_Md_rules 331 = .ok (.iload 4, 2) := by decide +kernel
theorem d_Md_rules_333 : decode b_Md_rules 333 = .ok (.iaload, 1) := by decide +kernel
theorem d_Md_rules_334 : decode b_Md_rules 334 = .ok (.iastore, 1) := by decide +kernel
theorem d_Md_rules_335 : decode b_Md_rules 335 = .ok (.iinc 4 1, 3) := by decide +kernel
theorem d_Md_rules_338 : decode b_Md_rules 338 = .ok (.goto (-28), 3) := by decide +kernel
theorem d_Md_rules_341 : decode b_Md_rules 341 = .ok (.aload_n 0, 1) := by decide +kernel
theorem d_Md_rules_342 : decode b_Md_rules 342 = .ok (.getfield 158, 3) := by decide +kernel
theorem d_Md_rules_345 : decode b_Md_rules 345 = .ok (.ireturn, 1) := by decide +kernel
theorem d_Md_next_0 : decode b_Md_next 0 = .ok (.aload_n 0, 1) := by decide +kernel
theorem d_Md_next_1 : decode b_Md_next 1 = .ok (.aload_n 0, 1) := by decide +kernel
theorem d_Md_next_2 : decode b_Md_next 2 = .ok (.getfield 123, 3) := by decide +kernel
theorem d_Md_next_5 : decode b_Md_next 5 = .ok (.putfield 126, 3) := by decide +kernel
theorem d_Md_next_8 : decode b_Md_next 8 = .ok (.aload_n 0, 1) := by decide +kernel
theorem d_Md_next_9 : decode b_Md_next 9 = .ok (.getfield 126, 3) := by decide +kernel
theorem d_Md_next_12 : decode b_Md_next 12 = .ok (.aload_n 0, 1) := by decide +kernel
theorem d_Md_next_13 : decode b_Md_next 13 = .ok (.getfield 121, 3) := by decide +kernel
theorem d_Md_next_16 : decode b_Md_next 16 = .ok (.if_icmp .ge 31, 3) := by decide +kernel
theorem d_Md_next_19 : decode b_Md_next 19 = .ok (.aload_n 0, 1) := by decide +kernel
theorem d_Md_next_20 : decode b_Md_next 20 = .ok (.getfield 39, 3) := by decide +kernel
theorem d_Md_next_23 : decode b_Md_next 23 = .ok (.aload_n 0, 1) := by decide +kernel
theorem d_Md_next_24 : decode b_Md_next 24 = .ok (.getfield 126, 3) := by decide +kernel
theorem d_Md_next_27 : decode b_Md_next 27 = .ok (.iaload, 1) := by decide +kernel
theorem d_Md_next_28 : decode b_Md_next 28 = .ok (.invokestatic 129, 3) := by decide +kernel
theorem d_Md_next_31 : decode b_Md_next 31 = .ok (.ifCond .eq 16, 3) := by decide +kernel
theorem d_Md_next_34 : decode b_Md_next 34 = .ok (.aload_n 0, 1) := by decide +kernel
theorem d_Md_next_35 : decode b_Md_next 35 = .ok (.dup, 1) := by decide +kernel
theorem d_Md_next_36 : decode b_Md_next 36 = .ok (.getfield 126, 3) := by decide +kernel
theorem d_Md_next_39 : decode b_Md_next 39 = .ok (.iconst 1, 1) := by decide +kernel
theorem d_Md_next_40 : decode b_Md_next 40 = .ok (.iadd, 1) := by decide +kernel
theorem d_Md_next_41 : decode b_Md_next 41 = .ok (.putfield 126, 3) := by decide +kernel
theorem d_Md_next_44 : decode b_Md_next 44 = .ok (.goto (-36), 3) := by decide +kernel
theorem d_Md_next_47 : decode b_Md_next 47 = .ok (.aload_n 0, 1) := by decide +kernel
theorem d_Md_next_48 : decode b_Md_next 48 = .ok (.aload_n 0, 1) := by decide +kernel
theorem d_Md_next_49 : decode b_Md_next 49 = .ok (.getfield 126, 3) := by decide +kernel
theorem d_Md_next_52 : decode b_Md_next 52 = .ok (.putfield 123, 3) := by decide +kernel
theorem d_Md_next_55 : decode b_Md_next 55 = .ok (.aload_n 0, 1) := by decide +kernel
theorem d_Md_next_56 : decode b_Md_next 56 = .ok (.getfield 123, 3) := by decide +kernel
theorem d_Md_next_59 : decode b_Md_next 59 = .ok (.aload_n 0, 1) := by decide +kernel
theorem d_Md_next_60 : decode b_Md_next 60 = .ok (.getfield 121, 3) := by decide +kernel
theorem d_Md_next_63 : decode b_Md_next 63 = .ok (.if_icmp .ge 31, 3) := by decide +kernel
theorem d_Md_next_66 : decode b_Md_next 66 = .ok (.aload_n 0, 1) := by decide +kernel
theorem d_Md_next_67 : decode b_Md_next 67 = .ok (.getfield 39, 3) := by decide +kernel
theorem d_Md_next_70 : decode b_Md_next 70 = .ok (.aload_n 0, 1) := by decide +kernel
theorem d_Md_next_71 : decode b_Md_next 71 = .ok (.getfield 123, 3) := by decide +kernel
theorem d_Md_next_74 : decode b_Md_next 74 = .ok (.iaload, 1) := by decide +kernel
theorem d_Md_next_75 : decode b_Md_next 75 = .ok (.invokestatic 129, 3) := by decide +kernel
theorem d_Md_next_78 : decode b_Md_next 78 = .ok (.ifCond .ne 16, 3) := by decide +kernel
theorem d_Md_next_81 : decode b_Md_next 81 = .ok (.aload_n 0, 1) := by decide +kernel
theorem d_Md_next_82 : decode b_Md_next 82 = .ok (.dup, 1) := by decide +kernel
theorem d_Md_next_83 : decode b_Md_next 83 = .ok (.getfield 123, 3) := by decide +kernel
theorem d_Md_next_86 : decode b_Md_next 86 = .ok (.iconst 1, 1) := by decide +kernel
theorem d_Md_next_87 : decode b_Md_next 87 = .ok (.iadd, 1) := by decide +kernel
theorem d_Md_next_88 : decode b_Md_next 88 = .ok (.putfield 123, 3) := by decide +kernel
theorem d_Md_next_91 : decode b_Md_next 91 = .ok (.goto (-36), 3) := by decide +kernel
theorem d_Md_next_94 : decode b_Md_next 94 = .ok (.aload_n 0, 1) := by decide +kernel
theorem d_Md_next_95 : decode b_Md_next 95 = .ok (.getfield 126, 3) := by decide +kernel
theorem d_Md_next_98 : decode b_Md_next 98 = .ok (.aload_n 0, 1) := by decide +kernel
theorem d_Md_next_99 : decode b_Md_next 99 = .ok (.getfield 121, 3) := by decide +kernel
theorem d_Md_next_102 : decode b_Md_next 102 = .ok (.if_icmp .ge 7, 3) := by decide +kernel
theorem d_Md_next_105 : decode b_Md_next 105 = .ok (.iconst 1, 1) := by decide +kernel
theorem d_Md_next_106 : decode b_Md_next 106 = .ok (.goto 4, 3) := by decide +kernel
theorem d_Md_next_109 : decode b_Md_next 109 = .ok (.iconst 0, 1) := by decide +kernel
theorem d_Md_next_110 : decode b_Md_next 110 = .ok (.ireturn, 1) := by decide +kernel
theorem d_Md_isBlank_0 : decode b_Md_isBlank 0 = .ok (.iload_n 0, 1) := by decide +kernel
theorem d_Md_isBlank_1 : decode b_Md_isBlank 1 = .ok (.bipush 32, 2) := by decide +kernel
theorem d_Md_isBlank_3 : decode b_Md_isBlank 3 = .ok (.if_icmp .eq 9, 3) := by decide +kernel
theorem d_Md_isBlank_6 : decode b_Md_isBlank 6 = .ok (.iload_n 0, 1) := by decide +kernel
theorem d_Md_isBlank_7 : decode b_Md_isBlank 7 = .ok (.bipush 10, 2) := by decide +kernel
theorem d_Md_isBlank_9 : decode b_Md_isBlank 9 = .ok (.if_icmp .ne 7, 3) := by decide +kernel
theorem d_Md_isBlank_12 : decode b_Md_isBlank 12 = .ok (.iconst 1, 1) := by decide +kernel
theorem d_Md_isBlank_13 : decode b_Md_isBlank 13 = .ok (.goto 4, 3) := by decide +kernel
theorem d_Md_isBlank_16 : decode b_Md_isBlank 16 = .ok (.iconst 0, 1) := by decide +kernel
theorem d_Md_isBlank_17 : decode b_Md_isBlank 17 = .ok (.ireturn, 1) := by decide +kernel
theorem d_Md_numberAt_0 : decode b_Md_numberAt 0 = .ok (.aload_n 0, 1) := by decide +kernel
theorem d_Md_numberAt_1 : decode b_Md_numberAt 1 = .ok (.getfield 39, 3) := by decide +kernel
theorem d_Md_numberAt_4 : decode b_Md_numberAt 4 = .ok (.aload_n 0, 1) := by decide +kernel
theorem d_Md_numberAt_5 : decode b_Md_numberAt 5 = .ok (.getfield 126, 3) := by decide +kernel
theorem d_Md_numberAt_8 : decode b_Md_numberAt 8 = .ok (.iaload, 1) := by decide +kernel
theorem d_Md_numberAt_9 : decode b_Md_numberAt 9 = .ok (.bipush 45, 2) := by decide +kernel
theorem d_Md_numberAt_11 : decode b_Md_numberAt 11 = .ok (.if_icmp .ne 7, 3) := by decide +kernel
theorem d_Md_numberAt_14 : decode b_Md_numberAt 14 = .ok (.iconst 1, 1) := by decide +kernel
theorem d_Md_numberAt_15 : decode b_Md_numberAt 15 = .ok (.goto 4, 3) := by decide +kernel
theorem d_Md_numberAt_18 : decode b_Md_numberAt 18 = .ok (.iconst 0, 1) := by decide +kernel
theorem d_Md_numberAt_19 : decode b_Md_numberAt 19 = .ok (.istore_n 1, 1) := by decide +kernel
theorem d_Md_numberAt_20 : decode b_Md_numberAt 20 = .ok (.iload_n 1, 1) := by decide +kernel
theorem d_Md_numberAt_21 : decode b_Md_numberAt 21 = .ok (.ifCond .eq 12, 3) := by decide +kernel
theorem d_Md_numberAt_24 : decode b_Md_numberAt 24 = .ok (.aload_n 0, 1) := by decide +kernel
theorem d_Md_numberAt_25 : decode b_Md_numberAt 25 = .ok (.getfield 126, 3) := by decide +kernel
theorem d_Md_numberAt_28 : decode b_Md_numberAt 28 = .ok (.iconst 1, 1) := by decide +kernel
theorem d_Md_numberAt_29 : decode b_Md_numberAt 29 = .ok (.iadd, 1) := by decide +kernel
theorem d_Md_numberAt_30 : decode b_Md_numberAt 30 = .ok (.goto 7, 3) := by decide +kernel
theorem d_Md_numberAt_33 : decode b_Md_numberAt 33 = .ok (.aload_n 0, 1) := by decide +kernel
theorem d_Md_numberAt_34 : decode b_Md_numberAt 34 = .ok (.getfield 126, 3) := by decide +kernel
theorem d_Md_numberAt_37 : decode b_Md_numberAt 37 = .ok (.istore_n 2, 1) := by decide +kernel
theorem d_Md_numberAt_38 : decode b_Md_numberAt 38 = .ok (.aload_n 0, 1) := by decide +kernel
theorem d_Md_numberAt_39 : decode b_Md_numberAt 39 = .ok (.getfield 123, 3) := by decide +kernel
theorem d_Md_numberAt_42 : decode b_Md_numberAt 42 = .ok (.iload_n 2, 1) := by decide +kernel
theorem d_Md_numberAt_43 : decode b_Md_numberAt 43 = .ok (.isub, 1) := by decide +kernel
theorem d_Md_numberAt_44 : decode b_Md_numberAt 44 = .ok (.iconst 1, 1) := by decide +kernel
theorem d_Md_numberAt_45 : decode b_Md_numberAt 45 = .ok (.if_icmp .lt 18, 3) := by decide +kernel
theorem d_Md_numberAt_48 : decode b_Md_numberAt 48 = .ok (.aload_n 0, 1) := by decide +kernel
theorem d_Md_numberAt_49 : decode b_Md_numberAt 49 = .ok (.getfield 123, 3) := by decide +kernel
theorem d_Md_numberAt_52 : decode b_Md_numberAt 52 = .ok (.iload_n 2, 1) := by decide +kernel
theorem d_Md_numberAt_53 : decode b_Md_numberAt 53 = .ok (.isub, 1) := by decide +kernel
theorem d_Md_numberAt_54 : decode b_Md_numberAt 54 = .ok (.bipush 6, 2) := by decide +kernel
theorem d_Md_numberAt_56 : decode b_Md_numberAt 56 = .ok (.if_icmp .gt 7, 3) := by decide +kernel
theorem d_Md_numberAt_59 : decode b_Md_numberAt 59 = .ok (.iconst 0, 1) := by decide +kernel
theorem d_Md_numberAt_60 : decode b_Md_numberAt 60 = .ok (.goto 5, 3) := by decide +kernel
theorem d_Md_numberAt_63 : decode b_Md_numberAt 63 = .ok (.ldc 132, 2) := by decide +kernel
theorem d_Md_numberAt_65 : decode b_Md_numberAt 65 = .ok (.istore_n 3, 1) := by decide +kernel
theorem d_Md_numberAt_66 : decode b_Md_numberAt 66 = .ok (.iload_n 2, 1) := by decide +kernel
theorem d_Md_numberAt_67 : decode b_Md_numberAt 67 = .ok (.istore 4, 2) := by decide +kernel
theorem d_Md_numberAt_69 : decode b_Md_numberAt 69 = .ok (.iload 4, 2) := by decide +kernel
theorem d_Md_numberAt_71 : decode b_Md_numberAt 71 = .ok (.aload_n 0, 1) := by decide +kernel
theorem d_Md_numberAt_72 : decode b_Md_numberAt 72 = .ok (.getfield 123, 3) := by decide +kernel
theorem d_Md_numberAt_75 : decode b_Md_numberAt 75 = .ok (.if_icmp .ge 58, 3) := by decide +kernel
theorem d_Md_numberAt_78 : decode b_Md_numberAt 78 = .ok (.iload_n 3, 1) := by decide +kernel
theorem d_Md_numberAt_79 : decode b_Md_numberAt 79 = .ok (.ifCond .lt 54, 3) := by decide +kernel
theorem d_Md_numberAt_82 : decode b_Md_numberAt 82 = .ok (.aload_n 0, 1) := by decide +kernel
theorem d_Md_numberAt_83 : decode b_Md_numberAt 83 = .ok (.getfield 39, 3) := by decide +kernel
theorem d_Md_numberAt_86 : decode b_Md_numberAt 86 = .ok (.iload 4, 2) := by decide +kernel
theorem d_Md_numberAt_88 : decode b_Md_numberAt 88 = .ok (.iaload, 1) := by decide +kernel
theorem d_Md_numberAt_89 : decode b_Md_numberAt 89 = .ok (.bipush 48, 2) := by decide +kernel
theorem d_Md_numberAt_91 : decode b_Md_numberAt 91 = .ok (.if_icmp .lt 33, 3) := by decide +kernel
theorem d_Md_numberAt_94 : decode b_Md_numberAt 94 = .ok (.aload_n 0, 1) := by decide +kernel
theorem d_Md_numberAt_95 : decode b_Md_numberAt 95 = .ok (.getfield 39, 3) := by decide +kernel
theorem d_Md_numberAt_98 : decode b_Md_numberAt 98 = .ok (.iload 4, 2) := by decide +kernel
theorem d_Md_numberAt_100 : decode b_Md_numberAt 100 = .ok (.iaload, 1) := by decide +kernel
theorem d_Md_numberAt_101 : decode b_Md_numberAt 101 = .ok (.bipush 57, 2) := by decide +kernel
theorem d_Md_numberAt_103 : decode b_Md_numberAt 103 = .ok (.if_icmp .gt 21, 3) := by decide +kernel
theorem d_Md_numberAt_106 : decode b_Md_numberAt 106 = .ok (.bipush 10, 2) := by decide +kernel
theorem d_Md_numberAt_108 : decode b_Md_numberAt 108 = .ok (.iload_n 3, 1) := by decide +kernel
theorem d_Md_numberAt_109 : decode b_Md_numberAt 109 = .ok (.imul, 1) := by decide +kernel
theorem d_Md_numberAt_110 : decode b_Md_numberAt 110 = .ok (.aload_n 0, 1) := by decide +kernel
theorem d_Md_numberAt_111 : decode b_Md_numberAt 111 = .ok (.getfield 39, 3) := by decide +kernel
theorem d_Md_numberAt_114 : decode b_Md_numberAt 114 = .ok (.iload 4, 2) := by decide +kernel
theorem d_Md_numberAt_116 : decode b_Md_numberAt 116 = .ok (.iaload, 1) := by decide +kernel
theorem d_Md_numberAt_117 : decode b_Md_numberAt 117 = .ok (.iadd, 1) := by decide +kernel
theorem d_Md_numberAt_118 : decode b_Md_numberAt 118 = .ok (.bipush 48, 2) := by decide +kernel
theorem d_Md_numberAt_120 : decode b_Md_numberAt 120 = .ok (.isub, 1) := by decide +kernel
theorem d_Md_numberAt_121 : decode b_Md_numberAt 121 = .ok (.goto 5, 3) := by decide +kernel
theorem d_Md_numberAt_124 : decode b_Md_numberAt 124 = .ok (.ldc 132, 2) := by decide +kernel
theorem d_Md_numberAt_126 : decode b_Md_numberAt 126 = .ok (.istore_n 3, 1) := by decide +kernel
theorem d_Md_numberAt_127 : decode b_Md_numberAt 127 = .ok (.iinc 4 1, 3) := by decide +kernel
theorem d_Md_numberAt_130 : decode b_Md_numberAt 130 = .ok (.goto (-61), 3) := by decide +kernel
theorem d_Md_numberAt_133 : decode b_Md_numberAt 133 = .ok (.iload_n 3, 1) := by decide +kernel
theorem d_Md_numberAt_134 : decode b_Md_numberAt 134 = .ok (.ifCond .lt 12, 3) := by decide +kernel
theorem d_Md_numberAt_137 : decode b_Md_numberAt 137 = .ok (.iload_n 1, 1) := by decide +kernel
theorem d_Md_numberAt_138 : decode b_Md_numberAt 138 = .ok (.ifCond .eq 8, 3) := by decide +kernel
theorem d_Md_numberAt_141 : decode b_Md_numberAt 141 = .ok (.iload_n 3, 1) := by decide +kernel
theorem d_Md_numberAt_142 : decode b_Md_numberAt 142 = .ok (.ineg, 1) := by decide +kernel
theorem d_Md_numberAt_143 : decode b_Md_numberAt 143 = .ok (.goto 4, 3) := by decide +kernel
theorem d_Md_numberAt_146 : decode b_Md_numberAt 146 = .ok (.iload_n 3, 1) := by decide +kernel
theorem d_Md_numberAt_147 : decode b_Md_numberAt 147 = .ok (.ireturn, 1) := by decide +kernel
theorem d_Md_isClass_0 : decode b_Md_isClass 0 = .ok (.aload_n 0, 1) := by decide +kernel
theorem d_Md_isClass_1 : decode b_Md_isClass 1 = .ok (.getfield 123, 3) := by decide +kernel
theorem d_Md_isClass_4 : decode b_Md_isClass 4 = .ok (.aload_n 0, 1) := by decide +kernel
theorem d_Md_isClass_5 : decode b_Md_isClass 5 = .ok (.getfield 126, 3) := by decide +kernel
theorem d_Md_isClass_8 : decode b_Md_isClass 8 = .ok (.isub, 1) := by decide +kernel
theorem d_Md_isClass_9 : decode b_Md_isClass 9 = .ok (.iconst 5, 1) := by decide +kernel
theorem d_Md_isClass_10 : decode b_Md_isClass 10 = .ok (.if_icmp .ne 85, 3) := by decide +kernel
theorem d_Md_isClass_13 : decode b_Md_isClass 13 = .ok (.aload_n 0, 1) := by decide +kernel
theorem d_Md_isClass_14 : decode b_Md_isClass 14 = .ok (.getfield 39, 3) := by decide +kernel
theorem d_Md_isClass_17 : decode b_Md_isClass 17 = .ok (.aload_n 0, 1) := by decide +kernel
theorem d_Md_isClass_18 : decode b_Md_isClass 18 = .ok (.getfield 126, 3) := by decide +kernel
theorem d_Md_isClass_21 : decode b_Md_isClass 21 = .ok (.iaload, 1) := by decide +kernel
theorem d_Md_isClass_22 : decode b_Md_isClass 22 = .ok (.bipush 99, 2) := by decide +kernel
theorem d_Md_isClass_24 : decode b_Md_isClass 24 = .ok (.if_icmp .ne 71, 3) := by decide +kernel
theorem d_Md_isClass_27 : decode b_Md_isClass 27 = .ok (.aload_n 0, 1) := by decide +kernel
theorem d_Md_isClass_28 : decode b_Md_isClass 28 = .ok (.getfield 39, 3) := by decide +kernel
theorem d_Md_isClass_31 : decode b_Md_isClass 31 = .ok (.aload_n 0, 1) := by decide +kernel
theorem d_Md_isClass_32 : decode b_Md_isClass 32 = .ok (.getfield 126, 3) := by decide +kernel
theorem d_Md_isClass_35 : decode b_Md_isClass 35 = .ok (.iconst 1, 1) := by decide +kernel
theorem d_Md_isClass_36 : decode b_Md_isClass 36 = .ok (.iadd, 1) := by decide +kernel
theorem d_Md_isClass_37 : decode b_Md_isClass 37 = .ok (.iaload, 1) := by decide +kernel
theorem d_Md_isClass_38 : decode b_Md_isClass 38 = .ok (.bipush 108, 2) := by decide +kernel
theorem d_Md_isClass_40 : decode b_Md_isClass 40 = .ok (.if_icmp .ne 55, 3) := by decide +kernel
theorem d_Md_isClass_43 : decode b_Md_isClass 43 = .ok (.aload_n 0, 1) := by decide +kernel
theorem d_Md_isClass_44 : decode b_Md_isClass 44 = .ok (.getfield 39, 3) := by decide +kernel
theorem d_Md_isClass_47 : decode b_Md_isClass 47 = .ok (.aload_n 0, 1) := by decide +kernel
theorem d_Md_isClass_48 : decode b_Md_isClass 48 = .ok (.getfield 126, 3) := by decide +kernel
theorem d_Md_isClass_51 : decode b_Md_isClass 51 = .ok (.iconst 2, 1) := by decide +kernel
theorem d_Md_isClass_52 : decode b_Md_isClass 52 = .ok (.iadd, 1) := by decide +kernel
theorem d_Md_isClass_53 : decode b_Md_isClass 53 = .ok (.iaload, 1) := by decide +kernel
theorem d_Md_isClass_54 : decode b_Md_isClass 54 = .ok (.bipush 97, 2) := by decide +kernel
theorem d_Md_isClass_56 : decode b_Md_isClass 56 = .ok (.if_icmp .ne 39, 3) := by decide +kernel
theorem d_Md_isClass_59 : decode b_Md_isClass 59 = .ok (.aload_n 0, 1) := by decide +kernel
theorem d_Md_isClass_60 : decode b_Md_isClass 60 = .ok (.getfield 39, 3) := by decide +kernel
theorem d_Md_isClass_63 : decode b_Md_isClass 63 = .ok (.aload_n 0, 1) := by decide +kernel
theorem d_Md_isClass_64 : decode b_Md_isClass 64 = .ok (.getfield 126, 3) := by decide +kernel
theorem d_Md_isClass_67 : decode b_Md_isClass 67 = .ok (.iconst 3, 1) := by decide +kernel
theorem d_Md_isClass_68 : decode b_Md_isClass 68 = .ok (.iadd, 1) := by decide +kernel
theorem d_Md_isClass_69 : decode b_Md_isClass 69 = .ok (.iaload, 1) := by decide +kernel
theorem d_Md_isClass_70 : decode b_Md_isClass 70 = .ok (.bipush 115, 2) := by decide +kernel
theorem d_Md_isClass_72 : decode b_Md_isClass 72 = .ok (.if_icmp .ne 23, 3) := by decide +kernel
theorem d_Md_isClass_75 : decode b_Md_isClass 75 = .ok (.aload_n 0, 1) := by decide +kernel
theorem d_Md_isClass_76 : decode b_Md_isClass 76 = .ok (.getfield 39, 3) := by decide +kernel
theorem d_Md_isClass_79 : decode b_Md_isClass 79 = .ok (.aload_n 0, 1) := by decide +kernel
theorem d_Md_isClass_80 : decode b_Md_isClass 80 = .ok (.getfield 126, 3) := by decide +kernel
theorem d_Md_isClass_83 : decode b_Md_isClass 83 = .ok (.iconst 4, 1) := by decide +kernel
theorem d_Md_isClass_84 : decode b_Md_isClass 84 = .ok (.iadd, 1) := by decide +kernel
theorem d_Md_isClass_85 : decode b_Md_isClass 85 = .ok (.iaload, 1) := by decide +kernel
theorem d_Md_isClass_86 : decode b_Md_isClass 86 = .ok (.bipush 115, 2) := by decide +kernel
theorem d_Md_isClass_88 : decode b_Md_isClass 88 = .ok (.if_icmp .ne 7, 3) := by decide +kernel
theorem d_Md_isClass_91 : decode b_Md_isClass 91 = .ok (.iconst 1, 1) := by decide +kernel
theorem d_Md_isClass_92 : decode b_Md_isClass 92 = .ok (.goto 4, 3) := by decide +kernel
theorem d_Md_isClass_95 : decode b_Md_isClass 95 = .ok (.iconst 0, 1) := by decide +kernel
theorem d_Md_isClass_96 : decode b_Md_isClass 96 = .ok (.ireturn, 1) := by decide +kernel
theorem d_Md_isLetter_0 : decode b_Md_isLetter 0 = .ok (.aload_n 0, 1) := by decide +kernel
theorem d_Md_isLetter_1 : decode b_Md_isLetter 1 = .ok (.getfield 123, 3) := by decide +kernel
theorem d_Md_isLetter_4 : decode b_Md_isLetter 4 = .ok (.aload_n 0, 1) := by decide +kernel
theorem d_Md_isLetter_5 : decode b_Md_isLetter 5 = .ok (.getfield 126, 3) := by decide +kernel
theorem d_Md_isLetter_8 : decode b_Md_isLetter 8 = .ok (.isub, 1) := by decide +kernel
theorem d_Md_isLetter_9 : decode b_Md_isLetter 9 = .ok (.iconst 1, 1) := by decide +kernel
theorem d_Md_isLetter_10 : decode b_Md_isLetter 10 = .ok (.if_icmp .ne 49, 3) := by decide +kernel
theorem d_Md_isLetter_13 : decode b_Md_isLetter 13 = .ok (.aload_n 0, 1) := by decide +kernel
theorem d_Md_isLetter_14 : decode b_Md_isLetter 14 = .ok (.getfield 39, 3) := by decide +kernel
theorem d_Md_isLetter_17 : decode b_Md_isLetter 17 = .ok (.aload_n 0, 1) := by decide +kernel
theorem d_Md_isLetter_18 : decode b_Md_isLetter 18 = .ok (.getfield 126, 3) := by decide +kernel
theorem d_Md_isLetter_21 : decode b_Md_isLetter 21 = .ok (.iaload, 1) := by decide +kernel
theorem d_Md_isLetter_22 : decode b_Md_isLetter 22 = .ok (.bipush 113, 2) := by decide +kernel
theorem d_Md_isLetter_24 : decode b_Md_isLetter 24 = .ok (.if_icmp .eq 31, 3) := by decide +kernel
theorem d_Md_isLetter_27 : decode b_Md_isLetter 27 = .ok (.aload_n 0, 1) := by decide +kernel
theorem d_Md_isLetter_28 : decode b_Md_isLetter 28 = .ok (.getfield 39, 3) := by decide +kernel
theorem d_Md_isLetter_31 : decode b_Md_isLetter 31 = .ok (.aload_n 0, 1) := by decide +kernel
theorem d_Md_isLetter_32 : decode b_Md_isLetter 32 = .ok (.getfield 126, 3) := by decide +kernel
theorem d_Md_isLetter_35 : decode b_Md_isLetter 35 = .ok (.iaload, 1) := by decide +kernel
theorem d_Md_isLetter_36 : decode b_Md_isLetter 36 = .ok (.bipush 118, 2) := by decide +kernel
theorem d_Md_isLetter_38 : decode b_Md_isLetter 38 = .ok (.if_icmp .eq 17, 3) := by decide +kernel
theorem d_Md_isLetter_41 : decode b_Md_isLetter 41 = .ok (.aload_n 0, 1) := by decide +kernel
theorem d_Md_isLetter_42 : decode b_Md_isLetter 42 = .ok (.getfield 39, 3) := by decide +kernel
theorem d_Md_isLetter_45 : decode b_Md_isLetter 45 = .ok (.aload_n 0, 1) := by decide +kernel
theorem d_Md_isLetter_46 : decode b_Md_isLetter 46 = .ok (.getfield 126, 3) := by decide +kernel
theorem d_Md_isLetter_49 : decode b_Md_isLetter 49 = .ok (.iaload, 1) := by decide +kernel
theorem d_Md_isLetter_50 : decode b_Md_isLetter 50 = .ok (.bipush 114, 2) := by decide +kernel
theorem d_Md_isLetter_52 : decode b_Md_isLetter 52 = .ok (.if_icmp .ne 7, 3) := by decide +kernel
theorem d_Md_isLetter_55 : decode b_Md_isLetter 55 = .ok (.iconst 1, 1) := by decide +kernel
theorem d_Md_isLetter_56 : decode b_Md_isLetter 56 = .ok (.goto 4, 3) := by decide +kernel
theorem d_Md_isLetter_59 : decode b_Md_isLetter 59 = .ok (.iconst 0, 1) := by decide +kernel
theorem d_Md_isLetter_60 : decode b_Md_isLetter 60 = .ok (.ireturn, 1) := by decide +kernel
theorem d_Md_take_0 : decode b_Md_take 0 = .ok (.iload_n 1, 1) := by decide +kernel
theorem d_Md_take_1 : decode b_Md_take 1 = .ok (.iconst 1, 1) := by decide +kernel
theorem d_Md_take_2 : decode b_Md_take 2 = .ok (.if_icmp .ne 38, 3) := by decide +kernel
theorem d_Md_take_5 : decode b_Md_take 5 = .ok (.aload_n 0, 1) := by decide +kernel
theorem d_Md_take_6 : decode b_Md_take 6 = .ok (.getfield 51, 3) := by decide +kernel
theorem d_Md_take_9 : decode b_Md_take 9 = .ok (.aload_n 0, 1) := by decide +kernel
theorem d_Md_take_10 : decode b_Md_take 10 = .ok (.getfield 133, 3) := by decide +kernel
theorem d_Md_take_13 : decode b_Md_take 13 = .ok (.iload_n 2, 1) := by decide +kernel
theorem d_Md_take_14 : decode b_Md_take 14 = .ok (.iastore, 1) := by decide +kernel
theorem d_Md_take_15 : decode b_Md_take 15 = .ok (.aload_n 0, 1) := by decide +kernel
theorem d_Md_take_16 : decode b_Md_take 16 = .ok (.getfield 54, 3) := by decide +kernel
theorem d_Md_take_19 : decode b_Md_take 19 = .ok (.aload_n 0, 1) := by decide +kernel
theorem d_Md_take_20 : decode b_Md_take 20 = .ok (.getfield 133, 3) := by decide +kernel
theorem d_Md_take_23 : decode b_Md_take 23 = .ok (.aload_n 0, 1) := by decide +kernel
theorem d_Md_take_24 : decode b_Md_take 24 = .ok (.getfield 136, 3) := by decide +kernel
theorem d_Md_take_27 : decode b_Md_take 27 = .ok (.iastore, 1) := by decide +kernel
theorem d_Md_take_28 : decode b_Md_take 28 = .ok (.aload_n 0, 1) := by decide +kernel
theorem d_Md_take_29 : decode b_Md_take 29 = .ok (.dup, 1) := by decide +kernel
theorem d_Md_take_30 : decode b_Md_take 30 = .ok (.getfield 133, 3) := by decide +kernel
theorem d_Md_take_33 : decode b_Md_take 33 = .ok (.iconst 1, 1) := by decide +kernel
theorem d_Md_take_34 : decode b_Md_take 34 = .ok (.iadd, 1) := by decide +kernel
theorem d_Md_take_35 : decode b_Md_take 35 = .ok (.putfield 133, 3) := by decide +kernel
theorem d_Md_take_38 : decode b_Md_take 38 = .ok (.iconst 2, 1) := by decide +kernel
theorem d_Md_take_39 : decode b_Md_take 39 = .ok (.ireturn, 1) := by decide +kernel
theorem d_Md_take_40 : decode b_Md_take 40 = .ok (.iload_n 1, 1) := by decide +kernel
theorem d_Md_take_41 : decode b_Md_take 41 = .ok (.iconst 3, 1) := by decide +kernel
theorem d_Md_take_42 : decode b_Md_take 42 = .ok (.if_icmp .ne 19, 3) := by decide +kernel
theorem d_Md_take_45 : decode b_Md_take 45 = .ok (.aload_n 0, 1) := by decide +kernel
theorem d_Md_take_46 : decode b_Md_take 46 = .ok (.getfield 57, 3) := by decide +kernel
theorem d_Md_take_49 : decode b_Md_take 49 = .ok (.iconst 3, 1) := by decide +kernel
theorem d_Md_take_50 : decode b_Md_take 50 = .ok (.aload_n 0, 1) := by decide +kernel
theorem d_Md_take_51 : decode b_Md_take 51 = .ok (.getfield 136, 3) := by decide +kernel
theorem d_Md_take_54 : decode b_Md_take 54 = .ok (.imul, 1) := by decide +kernel
theorem d_Md_take_55 : decode b_Md_take 55 = .ok (.iconst 1, 1) := by decide +kernel
theorem d_Md_take_56 : decode b_Md_take 56 = .ok (.iadd, 1) := by decide +kernel
theorem d_Md_take_57 : decode b_Md_take 57 = .ok (.iload_n 2, 1) := by decide +kernel
theorem d_Md_take_58 : decode b_Md_take 58 = .ok (.iastore, 1) := by decide +kernel
theorem d_Md_take_59 : decode b_Md_take 59 = .ok (.iconst 4, 1) := by decide +kernel
theorem d_Md_take_60 : decode b_Md_take 60 = .ok (.ireturn, 1) := by decide +kernel
theorem d_Md_take_61 : decode b_Md_take 61 = .ok (.iload_n 1, 1) := by decide +kernel
theorem d_Md_take_62 : decode b_Md_take 62 = .ok (.iconst 4, 1) := by decide +kernel
theorem d_Md_take_63 : decode b_Md_take 63 = .ok (.if_icmp .ne 29, 3) := by decide +kernel
theorem d_Md_take_66 : decode b_Md_take 66 = .ok (.aload_n 0, 1) := by decide +kernel
theorem d_Md_take_67 : decode b_Md_take 67 = .ok (.getfield 57, 3) := by decide +kernel
theorem d_Md_take_70 : decode b_Md_take 70 = .ok (.iconst 3, 1) := by decide +kernel
theorem d_Md_take_71 : decode b_Md_take 71 = .ok (.aload_n 0, 1) := by decide +kernel
theorem d_Md_take_72 : decode b_Md_take 72 = .ok (.getfield 136, 3) := by decide +kernel
theorem d_Md_take_75 : decode b_Md_take 75 = .ok (.imul, 1) := by decide +kernel
theorem d_Md_take_76 : decode b_Md_take 76 = .ok (.iconst 2, 1) := by decide +kernel
theorem d_Md_take_77 : decode b_Md_take 77 = .ok (.iadd, 1) := by decide +kernel
theorem d_Md_take_78 : decode b_Md_take 78 = .ok (.iload_n 2, 1) := by decide +kernel
theorem d_Md_take_79 : decode b_Md_take 79 = .ok (.iastore, 1) := by decide +kernel
theorem d_Md_take_80 : decode b_Md_take 80 = .ok (.aload_n 0, 1) := by decide +kernel
theorem d_Md_take_81 : decode b_Md_take 81 = .ok (.dup, 1) := by decide +kernel
theorem d_Md_take_82 : decode b_Md_take 82 = .ok (.getfield 136, 3) := by decide +kernel
theorem d_Md_take_85 : decode b_Md_take 85 = .ok (.iconst 1, 1) := by decide +kernel
theorem d_Md_take_86 : decode b_Md_take 86 = .ok (.iadd, 1) := by decide +kernel
theorem d_Md_take_87 : decode b_Md_take 87 = .ok (.putfield 136, 3) := by decide +kernel
theorem d_Md_take_90 : decode b_Md_take 90 = .ok (.iconst 2, 1) := by decide +kernel
theorem d_Md_take_91 : decode b_Md_take 91 = .ok (.ireturn, 1) := by decide +kernel
theorem d_Md_take_92 : decode b_Md_take 92 = .ok (.aload_n 0, 1) := by decide +kernel
theorem d_Md_take_93 : decode b_Md_take 93 = .ok (.invokevirtual 149, 3) := by decide +kernel
theorem d_Md_take_96 : decode b_Md_take 96 = .ok (.ifCond .eq 5, 3) := by decide +kernel
theorem d_Md_take_99 : decode b_Md_take 99 = .ok (.iconst 1, 1) := by decide +kernel
theorem d_Md_take_100 : decode b_Md_take 100 = .ok (.ireturn, 1) := by decide +kernel
theorem d_Md_take_101 : decode b_Md_take 101 = .ok (.aload_n 0, 1) := by decide +kernel
theorem d_Md_take_102 : decode b_Md_take 102 = .ok (.getfield 57, 3) := by decide +kernel
theorem d_Md_take_105 : decode b_Md_take 105 = .ok (.iconst 3, 1) := by decide +kernel
theorem d_Md_take_106 : decode b_Md_take 106 = .ok (.aload_n 0, 1) := by decide +kernel
theorem d_Md_take_107 : decode b_Md_take 107 = .ok (.getfield 136, 3) := by decide +kernel
theorem d_Md_take_110 : decode b_Md_take 110 = .ok (.imul, 1) := by decide +kernel
theorem d_Md_take_111 : decode b_Md_take 111 = .ok (.aload_n 0, 1) := by decide +kernel
theorem d_Md_take_112 : decode b_Md_take 112 = .ok (.getfield 39, 3) := by decide +kernel
theorem d_Md_take_115 : decode b_Md_take 115 = .ok (.aload_n 0, 1) := by decide +kernel
theorem d_Md_take_116 : decode b_Md_take 116 = .ok (.getfield 126, 3) := by decide +kernel
theorem d_Md_take_119 : decode b_Md_take 119 = .ok (.iaload, 1) := by decide +kernel
theorem d_Md_take_120 : decode b_Md_take 120 = .ok (.iastore, 1) := by decide +kernel
theorem d_Md_take_121 : decode b_Md_take 121 = .ok (.iconst 3, 1) := by decide +kernel
theorem d_Md_take_122 : decode b_Md_take 122 = .ok (.ireturn, 1) := by decide +kernel
theorem d_Md_cls_0 : decode b_Md_cls 0 = .ok (.aload_n 0, 1) := by decide +kernel
theorem d_Md_cls_1 : decode b_Md_cls 1 = .ok (.iload_n 1, 1) := by decide +kernel
theorem d_Md_cls_2 : decode b_Md_cls 2 = .ok (.invokevirtual 84, 3) := by decide +kernel
theorem d_Md_cls_5 : decode b_Md_cls 5 = .ok (.ifCond .eq 11, 3) := by decide +kernel
theorem d_Md_cls_8 : decode b_Md_cls 8 = .ok (.aload_n 0, 1) := by decide +kernel
theorem d_Md_cls_9 : decode b_Md_cls 9 = .ok (.iload_n 1, 1) := by decide +kernel
theorem d_Md_cls_10 : decode b_Md_cls 10 = .ok (.invokevirtual 168, 3) := by decide +kernel
theorem d_Md_cls_13 : decode b_Md_cls 13 = .ok (.ifCond .eq 5, 3) := by decide +kernel
theorem d_Md_cls_16 : decode b_Md_cls 16 = .ok (.iconst (-1), 1) := by decide +kernel
theorem d_Md_cls_17 : decode b_Md_cls 17 = .ok (.ireturn, 1) := by decide +kernel
theorem d_Md_cls_18 : decode b_Md_cls 18 = .ok (.iconst 0, 1) := by decide +kernel
theorem d_Md_cls_19 : decode b_Md_cls 19 = .ok (.istore_n 2, 1) := by decide +kernel
theorem d_Md_cls_20 : decode b_Md_cls 20 = .ok (.iload_n 2, 1) := by decide +kernel
theorem d_Md_cls_21 : decode b_Md_cls 21 = .ok (.aload_n 0, 1) := by decide +kernel
theorem d_Md_cls_22 : decode b_Md_cls 22 = .ok (.getfield 158, 3) := by decide +kernel
theorem d_Md_cls_25 : decode b_Md_cls 25 = .ok (.if_icmp .ge 69, 3) := by decide +kernel
theorem d_Md_cls_28 : decode b_Md_cls 28 = .ok (.iconst 1, 1) := by decide +kernel
theorem d_Md_cls_29 : decode b_Md_cls 29 = .ok (.istore_n 3, 1) := by decide +kernel
theorem d_Md_cls_30 : decode b_Md_cls 30 = .ok (.aload_n 0, 1) := by decide +kernel
theorem d_Md_cls_31 : decode b_Md_cls 31 = .ok (.getfield 45, 3) := by decide +kernel
theorem d_Md_cls_34 : decode b_Md_cls 34 = .ok (.iload_n 2, 1) := by decide +kernel
theorem d_Md_cls_35 : decode b_Md_cls 35 = .ok (.iaload, 1) := by decide +kernel
theorem d_Md_cls_36 : decode b_Md_cls 36 = .ok (.istore 4, 2) := by decide +kernel
theorem d_Md_cls_38 : decode b_Md_cls 38 = .ok (.iload 4, 2) := by decide +kernel
theorem d_Md_cls_40 : decode b_Md_cls 40 = .ok (.aload_n 0, 1) := by decide +kernel
theorem d_Md_cls_41 : decode b_Md_cls 41 = .ok (.getfield 45, 3) := by decide +kernel
theorem d_Md_cls_44 : decode b_Md_cls 44 = .ok (.iload_n 2, 1) := by decide +kernel
theorem d_Md_cls_45 : decode b_Md_cls 45 = .ok (.iconst 1, 1) := by decide +kernel
theorem d_Md_cls_46 : decode b_Md_cls 46 = .ok (.iadd, 1) := by decide +kernel
theorem d_Md_cls_47 : decode b_Md_cls 47 = .ok (.iaload, 1) := by decide +kernel
theorem d_Md_cls_48 : decode b_Md_cls 48 = .ok (.if_icmp .ge 29, 3) := by decide +kernel
theorem d_Md_cls_51 : decode b_Md_cls 51 = .ok (.iload_n 3, 1) := by decide +kernel
theorem d_Md_cls_52 : decode b_Md_cls 52 = .ok (.ifCond .eq 17, 3) := by decide +kernel
theorem d_Md_cls_55 : decode b_Md_cls 55 = .ok (.aload_n 0, 1) := by decide +kernel
theorem d_Md_cls_56 : decode b_Md_cls 56 = .ok (.iload_n 1, 1) := by decide +kernel
theorem d_Md_cls_57 : decode b_Md_cls 57 = .ok (.iload 4, 2) := by decide +kernel
theorem d_Md_cls_59 : decode b_Md_cls 59 = .ok (.invokevirtual 171, 3) := by decide +kernel
theorem d_Md_cls_62 : decode b_Md_cls 62 = .ok (.ifCond .eq 7, 3) := by decide +kernel
theorem d_Md_cls_65 : decode b_Md_cls 65 = .ok (.iconst 1, 1) := by decide +kernel
theorem d_Md_cls_66 : decode b_Md_cls 66 = .ok (.goto 4, 3) := by decide +kernel
theorem d_Md_cls_69 : decode b_Md_cls 69 = .ok (.iconst 0, 1) := by decide +kernel
theorem d_Md_cls_70 : decode b_Md_cls 70 = .ok (.istore_n 3, 1) := by decide +kernel
theorem d_Md_cls_71 : decode b_Md_cls 71 = .ok (.iinc 4 1, 3) := by decide +kernel
theorem d_Md_cls_74 : decode b_Md_cls 74 = .ok (.goto (-36), 3) := by decide +kernel
theorem d_Md_cls_77 : decode b_Md_cls 77 = .ok (.iload_n 3, 1) := by decide +kernel
theorem d_Md_cls_78 : decode b_Md_cls 78 = .ok (.ifCond .eq 10, 3) := by decide +kernel
theorem d_Md_cls_81 : decode b_Md_cls 81 = .ok (.aload_n 0, 1) := by decide +kernel
theorem d_Md_cls_82 : decode b_Md_cls 82 = .ok (.getfield 42, 3) := by decide +kernel
theorem d_Md_cls_85 : decode b_Md_cls 85 = .ok (.iload_n 2, 1) := by decide +kernel
theorem d_Md_cls_86 : decode b_Md_cls 86 = .ok (.iaload, 1) := by decide +kernel
theorem d_Md_cls_87 : decode b_Md_cls 87 = .ok (.ireturn, 1) := by decide +kernel
theorem d_Md_cls_88 : decode b_Md_cls 88 = .ok (.iinc 2 1, 3) := by decide +kernel
theorem d_Md_cls_91 : decode b_Md_cls 91 = .ok (.goto (-71), 3) := by decide +kernel
theorem d_Md_cls_94 : decode b_Md_cls 94 = .ok (.bipush 99, 2) := by decide +kernel
theorem d_Md_cls_96 : decode b_Md_cls 96 = .ok (.ireturn, 1) := by decide +kernel
theorem d_Md_isOpen_0 : decode b_Md_isOpen 0 = .ok (.aload_n 0, 1) := by decide +kernel
theorem d_Md_isOpen_1 : decode b_Md_isOpen 1 = .ok (.getfield 18, 3) := by decide +kernel
theorem d_Md_isOpen_4 : decode b_Md_isOpen 4 = .ok (.iload_n 1, 1) := by decide +kernel
theorem d_Md_isOpen_5 : decode b_Md_isOpen 5 = .ok (.iaload, 1) := by decide +kernel
theorem d_Md_isOpen_6 : decode b_Md_isOpen 6 = .ok (.ifCond .eq 12, 3) := by decide +kernel
theorem d_Md_isOpen_9 : decode b_Md_isOpen 9 = .ok (.aload_n 0, 1) := by decide +kernel
theorem d_Md_isOpen_10 : decode b_Md_isOpen 10 = .ok (.getfield 30, 3) := by decide +kernel
theorem d_Md_isOpen_13 : decode b_Md_isOpen 13 = .ok (.iload_n 1, 1) := by decide +kernel
theorem d_Md_isOpen_14 : decode b_Md_isOpen 14 = .ok (.iaload, 1) := by decide +kernel
theorem d_Md_isOpen_15 : decode b_Md_isOpen 15 = .ok (.ifCond .ne 7, 3) := by decide +kernel
theorem d_Md_isOpen_18 : decode b_Md_isOpen 18 = .ok (.iconst 1, 1) := by decide +kernel
theorem d_Md_isOpen_19 : decode b_Md_isOpen 19 = .ok (.goto 4, 3) := by decide +kernel
theorem d_Md_isOpen_22 : decode b_Md_isOpen 22 = .ok (.iconst 0, 1) := by decide +kernel
theorem d_Md_isOpen_23 : decode b_Md_isOpen 23 = .ok (.ireturn, 1) := by decide +kernel
theorem d_Md_holds_0 : decode b_Md_holds 0 = .ok (.aload_n 0, 1) := by decide +kernel
theorem d_Md_holds_1 : decode b_Md_holds 1 = .ok (.getfield 48, 3) := by decide +kernel
theorem d_Md_holds_4 : decode b_Md_holds 4 = .ok (.iconst 3, 1) := by decide +kernel
theorem d_Md_holds_5 : decode b_Md_holds 5 = .ok (.iload_n 2, 1) := by decide +kernel
theorem d_Md_holds_6 : decode b_Md_holds 6 = .ok (.imul, 1) := by decide +kernel
theorem d_Md_holds_7 : decode b_Md_holds 7 = .ok (.iaload, 1) := by decide +kernel
theorem d_Md_holds_8 : decode b_Md_holds 8 = .ok (.istore_n 3, 1) := by decide +kernel
theorem d_Md_holds_9 : decode b_Md_holds 9 = .ok (.aload_n 0, 1) := by decide +kernel
theorem d_Md_holds_10 : decode b_Md_holds 10 = .ok (.getfield 48, 3) := by decide +kernel
theorem d_Md_holds_13 : decode b_Md_holds 13 = .ok (.iconst 3, 1) := by decide +kernel
theorem d_Md_holds_14 : decode b_Md_holds 14 = .ok (.iload_n 2, 1) := by decide +kernel
theorem d_Md_holds_15 : decode b_Md_holds 15 = .ok (.imul, 1) := by decide +kernel
theorem d_Md_holds_16 : decode b_Md_holds 16 = .ok (.iconst 1, 1) := by decide +kernel
theorem d_Md_holds_17 : decode b_Md_holds 17 = .ok (.iadd, 1) := by decide +kernel
theorem d_Md_holds_18 : decode b_Md_holds 18 = .ok (.iaload, 1) := by decide +kernel
theorem d_Md_holds_19 : decode b_Md_holds 19 = .ok (.i2l, 1) := by decide +kernel
theorem d_Md_holds_20 : decode b_Md_holds 20 = .ok (.lstore 4, 2) := by decide +kernel
theorem d_Md_holds_22 : decode b_Md_holds 22 = .ok (.aload_n 0, 1) := by decide +kernel
theorem d_Md_holds_23 : decode b_Md_holds 23 = .ok (.getfield 48, 3) := by decide +kernel
theorem d_Md_holds_26 : decode b_Md_holds 26 = .ok (.iconst 3, 1) := by decide +kernel
theorem d_Md_holds_27 : decode b_Md_holds 27 = .ok (.iload_n 2, 1) := by decide +kernel
theorem d_Md_holds_28 : decode b_Md_holds 28 = .ok (.imul, 1) := by decide +kernel
theorem d_Md_holds_29 : decode b_Md_holds 29 = .ok (.iconst 2, 1) := by decide +kernel
theorem d_Md_holds_30 : decode b_Md_holds 30 = .ok (.iadd, 1) := by decide +kernel
theorem d_Md_holds_31 : decode b_Md_holds 31 = .ok (.iaload, 1) := by decide +kernel
theorem d_Md_holds_32 : decode b_Md_holds 32 = .ok (.i2l, 1) := by decide +kernel
theorem d_Md_holds_33 : decode b_Md_holds 33 = .ok (.lstore 6, 2) := by decide +kernel
theorem d_Md_holds_35 : decode b_Md_holds 35 = .ok (.iload_n 3, 1) := by decide +kernel
theorem d_Md_holds_36 : decode b_Md_holds 36 = .ok (.bipush 113, 2) := by decide +kernel
theorem d_Md_holds_38 : decode b_Md_holds 38 = .ok (.if_icmp .ne 16, 3) := by decide +kernel
theorem d_Md_holds_41 : decode b_Md_holds 41 = .ok (.aload_n 0, 1) := by decide +kernel
theorem d_Md_holds_42 : decode b_Md_holds 42 = .ok (.iload_n 1, 1) := by decide +kernel
theorem d_Md_holds_43 : decode b_Md_holds 43 = .ok (.invokevirtual 161, 3) := by decide +kernel
theorem d_Md_holds_46 : decode b_Md_holds 46 = .ok (.lload 4, 2) := by decide +kernel
theorem d_Md_holds_48 : decode b_Md_holds 48 = .ok (.lload 6, 2) := by decide +kernel
theorem d_Md_holds_50 : decode b_Md_holds 50 = .ok (.invokestatic 77, 3) := by decide +kernel
theorem d_Md_holds_53 : decode b_Md_holds 53 = .ok (.ireturn, 1) := by decide +kernel
theorem d_Md_holds_54 : decode b_Md_holds 54 = .ok (.iload_n 3, 1) := by decide +kernel
theorem d_Md_holds_55 : decode b_Md_holds 55 = .ok (.bipush 118, 2) := by decide +kernel
theorem d_Md_holds_57 : decode b_Md_holds 57 = .ok (.if_icmp .ne 17, 3) := by decide +kernel
theorem d_Md_holds_60 : decode b_Md_holds 60 = .ok (.aload_n 0, 1) := by decide +kernel
theorem d_Md_holds_61 : decode b_Md_holds 61 = .ok (.iload_n 1, 1) := by decide +kernel
theorem d_Md_holds_62 : decode b_Md_holds 62 = .ok (.invokevirtual 116, 3) := by decide +kernel
theorem d_Md_holds_65 : decode b_Md_holds 65 = .ok (.i2l, 1) := by decide +kernel
theorem d_Md_holds_66 : decode b_Md_holds 66 = .ok (.lload 4, 2) := by decide +kernel
theorem d_Md_holds_68 : decode b_Md_holds 68 = .ok (.lload 6, 2) := by decide +kernel
theorem d_Md_holds_70 : decode b_Md_holds 70 = .ok (.invokestatic 77, 3) := by decide +kernel
theorem d_Md_holds_73 : decode b_Md_holds 73 = .ok (.ireturn, 1) := by decide +kernel
theorem d_Md_holds_74 : decode b_Md_holds 74 = .ok (.aload_n 0, 1) := by decide +kernel
theorem d_Md_holds_75 : decode b_Md_holds 75 = .ok (.iload_n 1, 1) := by decide +kernel
theorem d_Md_holds_76 : decode b_Md_holds 76 = .ok (.invokevirtual 105, 3) := by decide +kernel
theorem d_Md_holds_79 : decode b_Md_holds 79 = .ok (.ifCond .lt 31, 3) := by decide +kernel
theorem d_Md_holds_82 : decode b_Md_holds 82 = .ok (.aload_n 0, 1) := by decide +kernel
theorem d_Md_holds_83 : decode b_Md_holds 83 = .ok (.iload_n 1, 1) := by decide +kernel
theorem d_Md_holds_84 : decode b_Md_holds 84 = .ok (.iconst 0, 1) := by decide +kernel
theorem d_Md_holds_85 : decode b_Md_holds 85 = .ok (.invokevirtual 165, 3) := by decide +kernel
theorem d_Md_holds_88 : decode b_Md_holds 88 = .ok (.aload_n 0, 1) := by decide +kernel
theorem d_Md_holds_89 : decode b_Md_holds 89 = .ok (.iload_n 1, 1) := by decide +kernel
theorem d_Md_holds_90 : decode b_Md_holds 90 = .ok (.iconst 1, 1) := by decide +kernel
theorem d_Md_holds_91 : decode b_Md_holds 91 = .ok (.invokevirtual 165, 3) := by decide +kernel
theorem d_Md_holds_94 : decode b_Md_holds 94 = .ok (.idiv, 1) := by decide +kernel
theorem d_Md_holds_95 : decode b_Md_holds 95 = .ok (.i2l, 1) := by decide +kernel
theorem d_Md_holds_96 : decode b_Md_holds 96 = .ok (.lload 4, 2) := by decide +kernel
theorem d_Md_holds_98 : decode b_Md_holds 98 = .ok (.lload 6, 2) := by decide +kernel
theorem d_Md_holds_100 : decode b_Md_holds 100 = .ok (.invokestatic 77, 3) := by decide +kernel
theorem d_Md_holds_103 : decode b_Md_holds 103 = .ok (.ifCond .eq 7, 3) := by decide +kernel
theorem d_Md_holds_106 : decode b_Md_holds 106 = .ok (.iconst 1, 1) := by decide +kernel
theorem d_Md_holds_107 : decode b_Md_holds 107 = .ok (.goto 4, 3) := by decide +kernel
theorem d_Md_holds_110 : decode b_Md_holds 110 = .ok (.iconst 0, 1) := by decide +kernel
theorem d_Md_holds_111 : decode b_Md_holds 111 = .ok (.ireturn, 1) := by decide +kernel
theorem d_Md_may_0 : decode b_Md_may 0 = .ok (.aload_n 0, 1) := by decide +kernel
theorem d_Md_may_1 : decode b_Md_may 1 = .ok (.iload_n 1, 1) := by decide +kernel
theorem d_Md_may_2 : decode b_Md_may 2 = .ok (.invokevirtual 84, 3) := by decide +kernel
theorem d_Md_may_5 : decode b_Md_may 5 = .ok (.ifCond .eq 15, 3) := by decide +kernel
theorem d_Md_may_8 : decode b_Md_may 8 = .ok (.iload_n 2, 1) := by decide +kernel
theorem d_Md_may_9 : decode b_Md_may 9 = .ok (.i2l, 1) := by decide +kernel
theorem d_Md_may_10 : decode b_Md_may 10 = .ok (.lconst 0, 1) := by decide +kernel
theorem d_Md_may_11 : decode b_Md_may 11 = .ok (.ldc2_w 175, 3) := by decide +kernel
theorem d_Md_may_14 : decode b_Md_may 14 = .ok (.invokestatic 77, 3) := by decide +kernel
theorem d_Md_may_17 : decode b_Md_may 17 = .ok (.ifCond .ne 5, 3) := by decide +kernel
theorem d_Md_may_20 : decode b_Md_may 20 = .ok (.iconst 0, 1) := by decide +kernel
theorem d_Md_may_21 : decode b_Md_may 21 = .ok (.ireturn, 1) := by decide +kernel
theorem d_Md_may_22 : decode b_Md_may 22 = .ok (.aload_n 0, 1) := by decide +kernel
theorem d_Md_may_23 : decode b_Md_may 23 = .ok (.iload_n 1, 1) := by decide +kernel
theorem d_Md_may_24 : decode b_Md_may 24 = .ok (.invokevirtual 177, 3) := by decide +kernel
theorem d_Md_may_27 : decode b_Md_may 27 = .ok (.ifCond .eq 14, 3) := by decide +kernel
theorem d_Md_may_30 : decode b_Md_may 30 = .ok (.iload_n 2, 1) := by decide +kernel
theorem d_Md_may_31 : decode b_Md_may 31 = .ok (.iconst 3, 1) := by decide +kernel
theorem d_Md_may_32 : decode b_Md_may 32 = .ok (.if_icmp .lt 7, 3) := by decide +kernel
theorem d_Md_may_35 : decode b_Md_may 35 = .ok (.iconst 1, 1) := by decide +kernel
theorem d_Md_may_36 : decode b_Md_may 36 = .ok (.goto 4, 3) := by decide +kernel
theorem d_Md_may_39 : decode b_Md_may 39 = .ok (.iconst 0, 1) := by decide +kernel
theorem d_Md_may_40 : decode b_Md_may 40 = .ok (.ireturn, 1) := by decide +kernel
theorem d_Md_may_41 : decode b_Md_may 41 = .ok (.aload_n 0, 1) := by decide +kernel
theorem d_Md_may_42 : decode b_Md_may 42 = .ok (.iload_n 1, 1) := by decide +kernel
theorem d_Md_may_43 : decode b_Md_may 43 = .ok (.invokevirtual 168, 3) := by decide +kernel
theorem d_Md_may_46 : decode b_Md_may 46 = .ok (.ifCond .eq 20, 3) := by decide +kernel
theorem d_Md_may_49 : decode b_Md_may 49 = .ok (.iload_n 2, 1) := by decide +kernel
theorem d_Md_may_50 : decode b_Md_may 50 = .ok (.ifCond .eq 8, 3) := by decide +kernel
theorem d_Md_may_53 : decode b_Md_may 53 = .ok (.iload_n 2, 1) := by decide +kernel
theorem d_Md_may_54 : decode b_Md_may 54 = .ok (.iconst 4, 1) := by decide +kernel
theorem d_Md_may_55 : decode b_Md_may 55 = .ok (.if_icmp .ne 7, 3) := by decide +kernel
theorem d_Md_may_58 : decode b_Md_may 58 = .ok (.iconst 1, 1) := by decide +kernel
theorem d_Md_may_59 : decode b_Md_may 59 = .ok (.goto 17, 3) := by decide +kernel
theorem d_Md_may_62 : decode b_Md_may 62 = .ok (.iconst 0, 1) := by decide +kernel
theorem d_Md_may_63 : decode b_Md_may 63 = .ok (.goto 13, 3) := by decide +kernel
theorem d_Md_may_66 : decode b_Md_may 66 = .ok (.iload_n 2, 1) := by decide +kernel
theorem d_Md_may_67 : decode b_Md_may 67 = .ok (.iconst 4, 1) := by decide +kernel
theorem d_Md_may_68 : decode b_Md_may 68 = .ok (.if_icmp .eq 7, 3) := by decide +kernel
theorem d_Md_may_71 : decode b_Md_may 71 = .ok (.iconst 1, 1) := by decide +kernel
theorem d_Md_may_72 : decode b_Md_may 72 = .ok (.goto 4, 3) := by decide +kernel
theorem d_Md_may_75 : decode b_Md_may 75 = .ok (.iconst 0, 1) := by decide +kernel
theorem d_Md_may_76 : decode b_Md_may 76 = .ok (.ireturn, 1) := by decide +kernel
theorem d_Md_pack_0 : decode b_Md_pack 0 = .ok (.iload_n 1, 1) := by decide +kernel
theorem d_Md_pack_1 : decode b_Md_pack 1 = .ok (.i2l, 1) := by decide +kernel
theorem d_Md_pack_2 : decode b_Md_pack 2 = .ok (.lconst 1, 1) := by decide +kernel
theorem d_Md_pack_3 : decode b_Md_pack 3 = .ok (.ldc2_w 175, 3) := by decide +kernel
theorem d_Md_pack_6 : decode b_Md_pack 6 = .ok (.invokestatic 77, 3) := by decide +kernel
theorem d_Md_pack_9 : decode b_Md_pack 9 = .ok (.ifCond .eq 15, 3) := by decide +kernel
theorem d_Md_pack_12 : decode b_Md_pack 12 = .ok (.iload_n 2, 1) := by decide +kernel
theorem d_Md_pack_13 : decode b_Md_pack 13 = .ok (.i2l, 1) := by decide +kernel
theorem d_Md_pack_14 : decode b_Md_pack 14 = .ok (.lconst 1, 1) := by decide +kernel
theorem d_Md_pack_15 : decode b_Md_pack 15 = .ok (.ldc2_w 175, 3) := by decide +kernel
theorem d_Md_pack_18 : decode b_Md_pack 18 = .ok (.invokestatic 77, 3) := by decide +kernel
theorem d_Md_pack_21 : decode b_Md_pack 21 = .ok (.ifCond .ne 7, 3) := by decide +kernel
theorem d_Md_pack_24 : decode b_Md_pack 24 = .ok (.ldc2_w 180, 3) := by decide +kernel
theorem d_Md_pack_27 : decode b_Md_pack 27 = .ok (.lreturn, 1) := by decide +kernel
theorem d_Md_pack_28 : decode b_Md_pack 28 = .ok (.iconst 0, 1) := by decide +kernel
theorem d_Md_pack_29 : decode b_Md_pack 29 = .ok (.istore_n 3, 1) := by decide +kernel
theorem d_Md_pack_30 : decode b_Md_pack 30 = .ok (.iconst 0, 1) := by decide +kernel
theorem d_Md_pack_31 : decode b_Md_pack 31 = .ok (.istore 4, 2) := by decide +kernel
theorem d_Md_pack_33 : decode b_Md_pack 33 = .ok (.iload 4, 2) := by decide +kernel
theorem d_Md_pack_35 : decode b_Md_pack 35 = .ok (.aload_n 0, 1) := by decide +kernel
theorem d_Md_pack_36 : decode b_Md_pack 36 = .ok (.getfield 72, 3) := by decide +kernel
theorem d_Md_pack_39 : decode b_Md_pack 39 = .ok (.if_icmp .ge 47, 3) := by decide +kernel
theorem d_Md_pack_42 : decode b_Md_pack 42 = .ok (.iload_n 3, 1) := by decide +kernel
theorem d_Md_pack_43 : decode b_Md_pack 43 = .ok (.aload_n 0, 1) := by decide +kernel
theorem d_Md_pack_44 : decode b_Md_pack 44 = .ok (.iload 4, 2) := by decide +kernel
theorem d_Md_pack_46 : decode b_Md_pack 46 = .ok (.invokevirtual 182, 3) := by decide +kernel
theorem d_Md_pack_49 : decode b_Md_pack 49 = .ok (.ifCond .eq 7, 3) := by decide +kernel
theorem d_Md_pack_52 : decode b_Md_pack 52 = .ok (.iconst 1, 1) := by decide +kernel
theorem d_Md_pack_53 : decode b_Md_pack 53 = .ok (.goto 4, 3) := by decide +kernel
theorem d_Md_pack_56 : decode b_Md_pack 56 = .ok (.iconst 0, 1) := by decide +kernel
theorem d_Md_pack_57 : decode b_Md_pack 57 = .ok (.iadd, 1) := by decide +kernel
theorem d_Md_pack_58 : decode b_Md_pack 58 = .ok (.istore_n 3, 1) := by decide +kernel
theorem d_Md_pack_59 : decode b_Md_pack 59 = .ok (.aload_n 0, 1) := by decide +kernel
theorem d_Md_pack_60 : decode b_Md_pack 60 = .ok (.getfield 63, 3) := by decide +kernel
theorem d_Md_pack_63 : decode b_Md_pack 63 = .ok (.iload 4, 2) := by decide +kernel
theorem d_Md_pack_65 : decode b_Md_pack 65 = .ok (.aload_n 0, 1) := by decide +kernel
theorem d_Md_pack_66 : decode b_Md_pack 66 = .ok (.iload 4, 2) := by decide +kernel
theorem d_Md_pack_68 : decode b_Md_pack 68 = .ok (.invokevirtual 182, 3) := by decide +kernel
theorem d_Md_pack_71 : decode b_Md_pack 71 = .ok (.ifCond .eq 7, 3) := by decide +kernel
theorem d_Md_pack_74 : decode b_Md_pack 74 = .ok (.iconst 0, 1) := by decide +kernel
theorem d_Md_pack_75 : decode b_Md_pack 75 = .ok (.goto 4, 3) := by decide +kernel
theorem d_Md_pack_78 : decode b_Md_pack 78 = .ok (.iload_n 2, 1) := by decide +kernel
theorem d_Md_pack_79 : decode b_Md_pack 79 = .ok (.iastore, 1) := by decide +kernel
theorem d_Md_pack_80 : decode b_Md_pack 80 = .ok (.iinc 4 1, 3) := by decide +kernel
theorem d_Md_pack_83 : decode b_Md_pack 83 = .ok (.goto (-50), 3) := by decide +kernel
theorem d_Md_pack_86 : decode b_Md_pack 86 = .ok (.iload_n 3, 1) := by decide +kernel
theorem d_Md_pack_87 : decode b_Md_pack 87 = .ok (.iload_n 1, 1) := by decide +kernel
theorem d_Md_pack_88 : decode b_Md_pack 88 = .ok (.iload_n 2, 1) := by decide +kernel
theorem d_Md_pack_89 : decode b_Md_pack 89 = .ok (.imul, 1) := by decide +kernel
theorem d_Md_pack_90 : decode b_Md_pack 90 = .ok (.if_icmp .ge 7, 3) := by decide +kernel
theorem d_Md_pack_93 : decode b_Md_pack 93 = .ok (.ldc2_w 180, 3) := by decide +kernel
theorem d_Md_pack_96 : decode b_Md_pack 96 = .ok (.lreturn, 1) := by decide +kernel
theorem d_Md_pack_97 : decode b_Md_pack 97 = .ok (.ldc2_w 180, 3) := by decide +kernel
theorem d_Md_pack_100 : decode b_Md_pack 100 = .ok (.lstore 4, 2) := by decide +kernel
theorem d_Md_pack_102 : decode b_Md_pack 102 = .ok (.iconst 1, 1) := by decide +kernel
theorem d_Md_pack_103 : decode b_Md_pack 103 = .ok (.istore 6, 2) := by decide +kernel
theorem d_Md_pack_105 : decode b_Md_pack 105 = .ok (.iload 6, 2) := by decide +kernel
theorem d_Md_pack_107 : decode b_Md_pack 107 = .ok (.ifCond .eq 116, 3) := by decide +kernel
theorem d_Md_pack_110 : decode b_Md_pack 110 = .ok (.aload_n 0, 1) := by decide +kernel
theorem d_Md_pack_111 : decode b_Md_pack 111 = .ok (.iload_n 1, 1) := by decide +kernel
theorem d_Md_pack_112 : decode b_Md_pack 112 = .ok (.iload_n 2, 1) := by decide +kernel
theorem d_Md_pack_113 : decode b_Md_pack 113 = .ok (.invokevirtual 185, 3) := by decide +kernel
theorem d_Md_pack_116 : decode b_Md_pack 116 = .ok (.ifCond .eq 12, 3) := by decide +kernel
theorem d_Md_pack_119 : decode b_Md_pack 119 = .ok (.aload_n 0, 1) := by decide +kernel
theorem d_Md_pack_120 : decode b_Md_pack 120 = .ok (.iload_n 1, 1) := by decide +kernel
theorem d_Md_pack_121 : decode b_Md_pack 121 = .ok (.iload_n 2, 1) := by decide +kernel
theorem d_Md_pack_122 : decode b_Md_pack 122 = .ok (.invokevirtual 188, 3) := by decide +kernel
theorem d_Md_pack_125 : decode b_Md_pack 125 = .ok (.goto 6, 3) := by decide +kernel
theorem d_Md_pack_128 : decode b_Md_pack 128 = .ok (.ldc2_w 180, 3) := by decide +kernel
theorem d_Md_pack_131 : decode b_Md_pack 131 = .ok (.lstore 7, 2) := by decide +kernel
theorem d_Md_pack_133 : decode b_Md_pack 133 = .ok (.lload 7, 2) := by decide +kernel
