theorem dL_solve_125 : decode cL_solve 125 = .ok (.bipush 8, 2) := by decide +kernel
theorem dL_solve_127 : decode cL_solve 127 = .ok (.iload_n 1, 1) := by decide +kernel
theorem dL_solve_128 : decode cL_solve 128 = .ok (.imul, 1) := by decide +kernel
theorem dL_solve_129 : decode cL_solve 129 = .ok (.iload_n 1, 1) := by decide +kernel
theorem dL_solve_130 : decode cL_solve 130 = .ok (.iadd, 1) := by decide +kernel
theorem dL_solve_131 : decode cL_solve 131 = .ok (.laload, 1) := by decide +kernel
theorem dL_solve_132 : decode cL_solve 132 = .ok (.aload_n 0, 1) := by decide +kernel
theorem dL_solve_133 : decode cL_solve 133 = .ok (.bipush 8, 2) := by decide +kernel
theorem dL_solve_135 : decode cL_solve 135 = .ok (.iload_n 3, 1) := by decide +kernel
theorem dL_solve_136 : decode cL_solve 136 = .ok (.imul, 1) := by decide +kernel
theorem dL_solve_137 : decode cL_solve 137 = .ok (.iload_n 1, 1) := by decide +kernel
theorem dL_solve_138 : decode cL_solve 138 = .ok (.iadd, 1) := by decide +kernel
theorem dL_solve_139 : decode cL_solve 139 = .ok (.laload, 1) := by decide +kernel
theorem dL_solve_140 : decode cL_solve 140 = .ok (.invokestatic 37, 3) := by decide +kernel
theorem dL_solve_143 : decode cL_solve 143 = .ok (.lstore 4, 2) := by decide +kernel
theorem dL_solve_145 : decode cL_solve 145 = .ok (.aload_n 0, 1) := by decide +kernel
theorem dL_solve_146 : decode cL_solve 146 = .ok (.bipush 8, 2) := by decide +kernel
theorem dL_solve_148 : decode cL_solve 148 = .ok (.iload_n 1, 1) := by decide +kernel
theorem dL_solve_149 : decode cL_solve 149 = .ok (.imul, 1) := by decide +kernel
theorem dL_solve_150 : decode cL_solve 150 = .ok (.iload_n 1, 1) := by decide +kernel
theorem dL_solve_151 : decode cL_solve 151 = .ok (.iadd, 1) := by decide +kernel
theorem dL_solve_152 : decode cL_solve 152 = .ok (.laload, 1) := by decide +kernel
theorem dL_solve_153 : decode cL_solve 153 = .ok (.lload 4, 2) := by decide +kernel
theorem dL_solve_155 : decode cL_solve 155 = .ok (.ldiv, 1) := by decide +kernel
theorem dL_solve_156 : decode cL_solve 156 = .ok (.lstore 6, 2) := by decide +kernel
theorem dL_solve_158 : decode cL_solve 158 = .ok (.aload_n 0, 1) := by decide +kernel
theorem dL_solve_159 : decode cL_solve 159 = .ok (.bipush 8, 2) := by decide +kernel
theorem dL_solve_161 : decode cL_solve 161 = .ok (.iload_n 3, 1) := by decide +kernel
theorem dL_solve_162 : decode cL_solve 162 = .ok (.imul, 1) := by decide +kernel
theorem dL_solve_163 : decode cL_solve 163 = .ok (.iload_n 1, 1) := by decide +kernel
theorem dL_solve_164 : decode cL_solve 164 = .ok (.iadd, 1) := by decide +kernel
theorem dL_solve_165 : decode cL_solve 165 = .ok (.laload, 1) := by decide +kernel
theorem dL_solve_166 : decode cL_solve 166 = .ok (.lload 4, 2) := by decide +kernel
theorem dL_solve_168 : decode cL_solve 168 = .ok (.ldiv, 1) := by decide +kernel
theorem dL_solve_169 : decode cL_solve 169 = .ok (.lstore 8, 2) := by decide +kernel
theorem dL_solve_171 : decode cL_solve 171 = .ok (.lconst 0, 1) := by decide +kernel
theorem dL_solve_172 : decode cL_solve 172 = .ok (.lstore 10, 2) := by decide +kernel
theorem dL_solve_174 : decode cL_solve 174 = .ok (.iconst 0, 1) := by decide +kernel
theorem dL_solve_175 : decode cL_solve 175 = .ok (.istore 12, 2) := by decide +kernel
theorem dL_solve_177 : decode cL_solve 177 = .ok (.iload 12, 2) := by decide +kernel
theorem dL_solve_179 : decode cL_solve 179 = .ok (.bipush 8, 2) := by decide +kernel
theorem dL_solve_181 : decode cL_solve 181 = .ok (.if_icmp .ge 59, 3) := by decide +kernel
theorem dL_solve_184 : decode cL_solve 184 = .ok (.aload_n 0, 1) := by decide +kernel
theorem dL_solve_185 : decode cL_solve 185 = .ok (.bipush 8, 2) := by decide +kernel
theorem dL_solve_187 : decode cL_solve 187 = .ok (.iload_n 3, 1) := by decide +kernel
theorem dL_solve_188 : decode cL_solve 188 = .ok (.imul, 1) := by decide +kernel
theorem dL_solve_189 : decode cL_solve 189 = .ok (.iload 12, 2) := by decide +kernel
theorem dL_solve_191 : decode cL_solve 191 = .ok (.iadd, 1) := by decide +kernel
theorem dL_solve_192 : decode cL_solve 192 = .ok (.aload_n 0, 1) := by decide +kernel
theorem dL_solve_193 : decode cL_solve 193 = .ok (.bipush 8, 2) := by decide +kernel
theorem dL_solve_195 : decode cL_solve 195 = .ok (.iload_n 3, 1) := by decide +kernel
theorem dL_solve_196 : decode cL_solve 196 = .ok (.imul, 1) := by decide +kernel
theorem dL_solve_197 : decode cL_solve 197 = .ok (.iload 12, 2) := by decide +kernel
theorem dL_solve_199 : decode cL_solve 199 = .ok (.iadd, 1) := by decide +kernel
theorem dL_solve_200 : decode cL_solve 200 = .ok (.laload, 1) := by decide +kernel
theorem dL_solve_201 : decode cL_solve 201 = .ok (.lload 6, 2) := by decide +kernel
theorem dL_solve_203 : decode cL_solve 203 = .ok (.lmul, 1) := by decide +kernel
theorem dL_solve_204 : decode cL_solve 204 = .ok (.aload_n 0, 1) := by decide +kernel
theorem dL_solve_205 : decode cL_solve 205 = .ok (.bipush 8, 2) := by decide +kernel
theorem dL_solve_207 : decode cL_solve 207 = .ok (.iload_n 1, 1) := by decide +kernel
theorem dL_solve_208 : decode cL_solve 208 = .ok (.imul, 1) := by decide +kernel
theorem dL_solve_209 : decode cL_solve 209 = .ok (.iload 12, 2) := by decide +kernel
theorem dL_solve_211 : decode cL_solve 211 = .ok (.iadd, 1) := by decide +kernel
theorem dL_solve_212 : decode cL_solve 212 = .ok (.laload, 1) := by decide +kernel
theorem dL_solve_213 : decode cL_solve 213 = .ok (.lload 8, 2) := by decide +kernel
theorem dL_solve_215 : decode cL_solve 215 = .ok (.lmul, 1) := by decide +kernel
theorem dL_solve_216 : decode cL_solve 216 = .ok (.lsub, 1) := by decide +kernel
theorem dL_solve_217 : decode cL_solve 217 = .ok (.lastore, 1) := by decide +kernel
theorem dL_solve_218 : decode cL_solve 218 = .ok (.lload 10, 2) := by decide +kernel
theorem dL_solve_220 : decode cL_solve 220 = .ok (.aload_n 0, 1) := by decide +kernel
theorem dL_solve_221 : decode cL_solve 221 = .ok (.bipush 8, 2) := by decide +kernel
theorem dL_solve_223 : decode cL_solve 223 = .ok (.iload_n 3, 1) := by decide +kernel
theorem dL_solve_224 : decode cL_solve 224 = .ok (.imul, 1) := by decide +kernel
theorem dL_solve_225 : decode cL_solve 225 = .ok (.iload 12, 2) := by decide +kernel
theorem dL_solve_227 : decode cL_solve 227 = .ok (.iadd, 1) := by decide +kernel
theorem dL_solve_228 : decode cL_solve 228 = .ok (.laload, 1) := by decide +kernel
theorem dL_solve_229 : decode cL_solve 229 = .ok (.invokestatic 37, 3) := by decide +kernel
theorem dL_solve_232 : decode cL_solve 232 = .ok (.lstore 10, 2) := by decide +kernel
theorem dL_solve_234 : decode cL_solve 234 = .ok (.iinc 12 1, 3) := by decide +kernel
theorem dL_solve_237 : decode cL_solve 237 = .ok (.goto (-60), 3) := by decide +kernel
theorem dL_solve_240 : decode cL_solve 240 = .ok (.iconst 0, 1) := by decide +kernel
theorem dL_solve_241 : decode cL_solve 241 = .ok (.istore 12, 2) := by decide +kernel
theorem dL_solve_243 : decode cL_solve 243 = .ok (.iload 12, 2) := by decide +kernel
theorem dL_solve_245 : decode cL_solve 245 = .ok (.bipush 8, 2) := by decide +kernel
theorem dL_solve_247 : decode cL_solve 247 = .ok (.if_icmp .ge 30, 3) := by decide +kernel
theorem dL_solve_250 : decode cL_solve 250 = .ok (.lload 10, 2) := by decide +kernel
theorem dL_solve_252 : decode cL_solve 252 = .ok (.lconst 1, 1) := by decide +kernel
theorem dL_solve_253 : decode cL_solve 253 = .ok (.lcmp, 1) := by decide +kernel
theorem dL_solve_254 : decode cL_solve 254 = .ok (.ifCond .le 23, 3) := by decide +kernel
theorem dL_solve_257 : decode cL_solve 257 = .ok (.aload_n 0, 1) := by decide +kernel
theorem dL_solve_258 : decode cL_solve 258 = .ok (.bipush 8, 2) := by decide +kernel
theorem dL_solve_260 : decode cL_solve 260 = .ok (.iload_n 3, 1) := by decide +kernel
theorem dL_solve_261 : decode cL_solve 261 = .ok (.imul, 1) := by decide +kernel
theorem dL_solve_262 : decode cL_solve 262 = .ok (.iload 12, 2) := by decide +kernel
theorem dL_solve_264 : decode cL_solve 264 = .ok (.iadd, 1) := by decide +kernel
theorem dL_solve_265 : decode cL_solve 265 = .ok (.dup2, 1) := by decide +kernel
theorem dL_solve_266 : decode cL_solve 266 = .ok (.laload, 1) := by decide +kernel
theorem dL_solve_267 : decode cL_solve 267 = .ok (.lload 10, 2) := by decide +kernel
theorem dL_solve_269 : decode cL_solve 269 = .ok (.ldiv, 1) := by decide +kernel
theorem dL_solve_270 : decode cL_solve 270 = .ok (.lastore, 1) := by decide +kernel
theorem dL_solve_271 : decode cL_solve 271 = .ok (.iinc 12 1, 3) := by decide +kernel
theorem dL_solve_274 : decode cL_solve 274 = .ok (.goto (-31), 3) := by decide +kernel
theorem dL_solve_277 : decode cL_solve 277 = .ok (.iinc 3 1, 3) := by decide +kernel
theorem dL_solve_280 : decode cL_solve 280 = .ok (.goto (-183), 3) := by decide +kernel
theorem dL_solve_283 : decode cL_solve 283 = .ok (.iinc 1 1, 3) := by decide +kernel
theorem dL_solve_286 : decode cL_solve 286 = .ok (.goto (-284), 3) := by decide +kernel
theorem dL_solve_289 : decode cL_solve 289 = .ok (.iconst 1, 1) := by decide +kernel
theorem dL_solve_290 : decode cL_solve 290 = .ok (.ireturn, 1) := by decide +kernel
theorem dL_common_0 : decode cL_common 0 = .ok (.lload_n 0, 1) := by decide +kernel
theorem dL_common_1 : decode cL_common 1 = .ok (.lconst 0, 1) := by decide +kernel
theorem dL_common_2 : decode cL_common 2 = .ok (.lcmp, 1) := by decide +kernel
theorem dL_common_3 : decode cL_common 3 = .ok (.ifCond .ge 8, 3) := by decide +kernel
theorem dL_common_6 : decode cL_common 6 = .ok (.lload_n 0, 1) := by decide +kernel
theorem dL_common_7 : decode cL_common 7 = .ok (.lneg, 1) := by decide +kernel
theorem dL_common_8 : decode cL_common 8 = .ok (.goto 4, 3) := by decide +kernel
theorem dL_common_11 : decode cL_common 11 = .ok (.lload_n 0, 1) := by decide +kernel
theorem dL_common_12 : decode cL_common 12 = .ok (.lstore 4, 2) := by decide +kernel
theorem dL_common_14 : decode cL_common 14 = .ok (.lload_n 2, 1) := by decide +kernel
theorem dL_common_15 : decode cL_common 15 = .ok (.lconst 0, 1) := by decide +kernel
theorem dL_common_16 : decode cL_common 16 = .ok (.lcmp, 1) := by decide +kernel
theorem dL_common_17 : decode cL_common 17 = .ok (.ifCond .ge 8, 3) := by decide +kernel
theorem dL_common_20 : decode cL_common 20 = .ok (.lload_n 2, 1) := by decide +kernel
theorem dL_common_21 : decode cL_common 21 = .ok (.lneg, 1) := by decide +kernel
theorem dL_common_22 : decode cL_common 22 = .ok (.goto 4, 3) := by decide +kernel
theorem dL_common_25 : decode cL_common 25 = .ok (.lload_n 2, 1) := by decide +kernel
theorem dL_common_26 : decode cL_common 26 = .ok (.lstore 6, 2) := by decide +kernel
theorem dL_common_28 : decode cL_common 28 = .ok (.lload 6, 2) := by decide +kernel
theorem dL_common_30 : decode cL_common 30 = .ok (.lconst 0, 1) := by decide +kernel
theorem dL_common_31 : decode cL_common 31 = .ok (.lcmp, 1) := by decide +kernel
theorem dL_common_32 : decode cL_common 32 = .ok (.ifCond .le 21, 3) := by decide +kernel
theorem dL_common_35 : decode cL_common 35 = .ok (.lload 4, 2) := by decide +kernel
theorem dL_common_37 : decode cL_common 37 = .ok (.lload 6, 2) := by decide +kernel
theorem dL_common_39 : decode cL_common 39 = .ok (.lrem, 1) := by decide +kernel
theorem dL_common_40 : decode cL_common 40 = .ok (.lstore 8, 2) := by decide +kernel
theorem dL_common_42 : decode cL_common 42 = .ok (.lload 6, 2) := by decide +kernel
theorem dL_common_44 : decode cL_common 44 = .ok (.lstore 4, 2) := by decide +kernel
theorem dL_common_46 : decode cL_common 46 = .ok (.lload 8, 2) := by decide +kernel
theorem dL_common_48 : decode cL_common 48 = .ok (.lstore 6, 2) := by decide +kernel
theorem dL_common_50 : decode cL_common 50 = .ok (.goto (-22), 3) := by decide +kernel
theorem dL_common_53 : decode cL_common 53 = .ok (.lload 4, 2) := by decide +kernel
theorem dL_common_55 : decode cL_common 55 = .ok (.lreturn, 1) := by decide +kernel
theorem dL_part_0 : decode cL_part 0 = .ok (.aload_n 2, 1) := by decide +kernel
theorem dL_part_1 : decode cL_part 1 = .ok (.bipush 8, 2) := by decide +kernel
theorem dL_part_3 : decode cL_part 3 = .ok (.iload_n 0, 1) := by decide +kernel
theorem dL_part_4 : decode cL_part 4 = .ok (.imul, 1) := by decide +kernel
theorem dL_part_5 : decode cL_part 5 = .ok (.bipush 7, 2) := by decide +kernel
theorem dL_part_7 : decode cL_part 7 = .ok (.iadd, 1) := by decide +kernel
theorem dL_part_8 : decode cL_part 8 = .ok (.laload, 1) := by decide +kernel
theorem dL_part_9 : decode cL_part 9 = .ok (.lstore_n 3, 1) := by decide +kernel
theorem dL_part_10 : decode cL_part 10 = .ok (.aload_n 2, 1) := by decide +kernel
theorem dL_part_11 : decode cL_part 11 = .ok (.bipush 8, 2) := by decide +kernel
theorem dL_part_13 : decode cL_part 13 = .ok (.iload_n 0, 1) := by decide +kernel
theorem dL_part_14 : decode cL_part 14 = .ok (.imul, 1) := by decide +kernel
theorem dL_part_15 : decode cL_part 15 = .ok (.iload_n 0, 1) := by decide +kernel
theorem dL_part_16 : decode cL_part 16 = .ok (.iadd, 1) := by decide +kernel
theorem dL_part_17 : decode cL_part 17 = .ok (.laload, 1) := by decide +kernel
theorem dL_part_18 : decode cL_part 18 = .ok (.lstore 5, 2) := by decide +kernel
theorem dL_part_20 : decode cL_part 20 = .ok (.lload_n 3, 1) := by decide +kernel
theorem dL_part_21 : decode cL_part 21 = .ok (.lload 5, 2) := by decide +kernel
theorem dL_part_23 : decode cL_part 23 = .ok (.invokestatic 37, 3) := by decide +kernel
theorem dL_part_26 : decode cL_part 26 = .ok (.lstore 7, 2) := by decide +kernel
theorem dL_part_28 : decode cL_part 28 = .ok (.lload 5, 2) := by decide +kernel
theorem dL_part_30 : decode cL_part 30 = .ok (.lconst 0, 1) := by decide +kernel
theorem dL_part_31 : decode cL_part 31 = .ok (.lcmp, 1) := by decide +kernel
theorem dL_part_32 : decode cL_part 32 = .ok (.ifCond .ge 8, 3) := by decide +kernel
theorem dL_part_35 : decode cL_part 35 = .ok (.lload 7, 2) := by decide +kernel
theorem dL_part_37 : decode cL_part 37 = .ok (.lneg, 1) := by decide +kernel
theorem dL_part_38 : decode cL_part 38 = .ok (.lstore 7, 2) := by decide +kernel
theorem dL_part_40 : decode cL_part 40 = .ok (.iload_n 1, 1) := by decide +kernel
theorem dL_part_41 : decode cL_part 41 = .ok (.ifCond .ne 10, 3) := by decide +kernel
theorem dL_part_44 : decode cL_part 44 = .ok (.lload_n 3, 1) := by decide +kernel
theorem dL_part_45 : decode cL_part 45 = .ok (.lload 7, 2) := by decide +kernel
theorem dL_part_47 : decode cL_part 47 = .ok (.ldiv, 1) := by decide +kernel
theorem dL_part_48 : decode cL_part 48 = .ok (.goto 8, 3) := by decide +kernel
theorem dL_part_51 : decode cL_part 51 = .ok (.lload 5, 2) := by decide +kernel
theorem dL_part_53 : decode cL_part 53 = .ok (.lload 7, 2) := by decide +kernel
theorem dL_part_55 : decode cL_part 55 = .ok (.ldiv, 1) := by decide +kernel
theorem dL_part_56 : decode cL_part 56 = .ok (.lreturn, 1) := by decide +kernel
theorem dL_higher_0 : decode cL_higher 0 = .ok (.iload_n 0, 1) := by decide +kernel
theorem dL_higher_1 : decode cL_higher 1 = .ok (.iconst 0, 1) := by decide +kernel
theorem dL_higher_2 : decode cL_higher 2 = .ok (.aload_n 2, 1) := by decide +kernel
theorem dL_higher_3 : decode cL_higher 3 = .ok (.invokestatic 41, 3) := by decide +kernel
theorem dL_higher_6 : decode cL_higher 6 = .ok (.iload_n 1, 1) := by decide +kernel
theorem dL_higher_7 : decode cL_higher 7 = .ok (.iconst 1, 1) := by decide +kernel
theorem dL_higher_8 : decode cL_higher 8 = .ok (.aload_n 2, 1) := by decide +kernel
theorem dL_higher_9 : decode cL_higher 9 = .ok (.invokestatic 41, 3) := by decide +kernel
theorem dL_higher_12 : decode cL_higher 12 = .ok (.lmul, 1) := by decide +kernel
theorem dL_higher_13 : decode cL_higher 13 = .ok (.iload_n 1, 1) := by decide +kernel
theorem dL_higher_14 : decode cL_higher 14 = .ok (.iconst 0, 1) := by decide +kernel
theorem dL_higher_15 : decode cL_higher 15 = .ok (.aload_n 2, 1) := by decide +kernel
theorem dL_higher_16 : decode cL_higher 16 = .ok (.invokestatic 41, 3) := by decide +kernel
theorem dL_higher_19 : decode cL_higher 19 = .ok (.iload_n 0, 1) := by decide +kernel
theorem dL_higher_20 : decode cL_higher 20 = .ok (.iconst 1, 1) := by decide +kernel
theorem dL_higher_21 : decode cL_higher 21 = .ok (.aload_n 2, 1) := by decide +kernel
theorem dL_higher_22 : decode cL_higher 22 = .ok (.invokestatic 41, 3) := by decide +kernel
theorem dL_higher_25 : decode cL_higher 25 = .ok (.lmul, 1) := by decide +kernel
theorem dL_higher_26 : decode cL_higher 26 = .ok (.lsub, 1) := by decide +kernel
theorem dL_higher_27 : decode cL_higher 27 = .ok (.lstore_n 3, 1) := by decide +kernel
theorem dL_higher_28 : decode cL_higher 28 = .ok (.lload_n 3, 1) := by decide +kernel
theorem dL_higher_29 : decode cL_higher 29 = .ok (.lconst 0, 1) := by decide +kernel
theorem dL_higher_30 : decode cL_higher 30 = .ok (.lcmp, 1) := by decide +kernel
theorem dL_higher_31 : decode cL_higher 31 = .ok (.ifCond .le 7, 3) := by decide +kernel
theorem dL_higher_34 : decode cL_higher 34 = .ok (.iconst 1, 1) := by decide +kernel
theorem dL_higher_35 : decode cL_higher 35 = .ok (.goto 14, 3) := by decide +kernel
theorem dL_higher_38 : decode cL_higher 38 = .ok (.lload_n 3, 1) := by decide +kernel
theorem dL_higher_39 : decode cL_higher 39 = .ok (.lconst 0, 1) := by decide +kernel
theorem dL_higher_40 : decode cL_higher 40 = .ok (.lcmp, 1) := by decide +kernel
theorem dL_higher_41 : decode cL_higher 41 = .ok (.ifCond .ge 7, 3) := by decide +kernel
theorem dL_higher_44 : decode cL_higher 44 = .ok (.iconst (-1), 1) := by decide +kernel
theorem dL_higher_45 : decode cL_higher 45 = .ok (.goto 4, 3) := by decide +kernel
theorem dL_higher_48 : decode cL_higher 48 = .ok (.iconst 0, 1) := by decide +kernel
theorem dL_higher_49 : decode cL_higher 49 = .ok (.ireturn, 1) := by decide +kernel
theorem dL_why_0 : decode cL_why 0 = .ok (.iload_n 0, 1) := by decide +kernel
theorem dL_why_1 : decode cL_why 1 = .ok (.iconst (-1), 1) := by decide +kernel
theorem dL_why_2 : decode cL_why 2 = .ok (.aload_n 1, 1) := by decide +kernel
theorem dL_why_3 : decode cL_why 3 = .ok (.aload_n 2, 1) := by decide +kernel
theorem dL_why_4 : decode cL_why 4 = .ok (.aload_n 3, 1) := by decide +kernel
theorem dL_why_5 : decode cL_why 5 = .ok (.invokestatic 45, 3) := by decide +kernel
theorem dL_why_8 : decode cL_why 8 = .ok (.aload_n 3, 1) := by decide +kernel
theorem dL_why_9 : decode cL_why 9 = .ok (.invokestatic 49, 3) := by decide +kernel
theorem dL_why_12 : decode cL_why 12 = .ok (.ifCond .ne 6, 3) := by decide +kernel
theorem dL_why_15 : decode cL_why 15 = .ok (.bipush 10, 2) := by decide +kernel
theorem dL_why_17 : decode cL_why 17 = .ok (.ireturn, 1) := by decide +kernel
theorem dL_why_18 : decode cL_why 18 = .ok (.iconst 0, 1) := by decide +kernel
theorem dL_why_19 : decode cL_why 19 = .ok (.istore 5, 2) := by decide +kernel
theorem dL_why_21 : decode cL_why 21 = .ok (.iload 5, 2) := by decide +kernel
theorem dL_why_23 : decode cL_why 23 = .ok (.aload_n 1, 1) := by decide +kernel
theorem dL_why_24 : decode cL_why 24 = .ok (.iconst 0, 1) := by decide +kernel
theorem dL_why_25 : decode cL_why 25 = .ok (.iaload, 1) := by decide +kernel
theorem dL_why_26 : decode cL_why 26 = .ok (.aload_n 2, 1) := by decide +kernel
theorem dL_why_27 : decode cL_why 27 = .ok (.invokestatic 18, 3) := by decide +kernel
theorem dL_why_30 : decode cL_why 30 = .ok (.if_icmp .ge 190, 3) := by decide +kernel
theorem dL_why_33 : decode cL_why 33 = .ok (.iconst 4, 1) := by decide +kernel
theorem dL_why_34 : decode cL_why 34 = .ok (.iload 5, 2) := by decide +kernel
theorem dL_why_36 : decode cL_why 36 = .ok (.aload_n 1, 1) := by decide +kernel
theorem dL_why_37 : decode cL_why 37 = .ok (.aload_n 2, 1) := by decide +kernel
theorem dL_why_38 : decode cL_why 38 = .ok (.invokestatic 53, 3) := by decide +kernel
theorem dL_why_41 : decode cL_why 41 = .ok (.imul, 1) := by decide +kernel
theorem dL_why_42 : decode cL_why 42 = .ok (.istore 6, 2) := by decide +kernel
theorem dL_why_44 : decode cL_why 44 = .ok (.aload_n 2, 1) := by decide +kernel
theorem dL_why_45 : decode cL_why 45 = .ok (.iload 6, 2) := by decide +kernel
theorem dL_why_47 : decode cL_why 47 = .ok (.iconst 1, 1) := by decide +kernel
theorem dL_why_48 : decode cL_why 48 = .ok (.iadd, 1) := by decide +kernel
theorem dL_why_49 : decode cL_why 49 = .ok (.iaload, 1) := by decide +kernel
theorem dL_why_50 : decode cL_why 50 = .ok (.aload_n 2, 1) := by decide +kernel
theorem dL_why_51 : decode cL_why 51 = .ok (.iload 6, 2) := by decide +kernel
theorem dL_why_53 : decode cL_why 53 = .ok (.iconst 2, 1) := by decide +kernel
theorem dL_why_54 : decode cL_why 54 = .ok (.iadd, 1) := by decide +kernel
theorem dL_why_55 : decode cL_why 55 = .ok (.iaload, 1) := by decide +kernel
theorem dL_why_56 : decode cL_why 56 = .ok (.aload_n 3, 1) := by decide +kernel
theorem dL_why_57 : decode cL_why 57 = .ok (.invokestatic 56, 3) := by decide +kernel
theorem dL_why_60 : decode cL_why 60 = .ok (.istore 7, 2) := by decide +kernel
theorem dL_why_62 : decode cL_why 62 = .ok (.aload_n 2, 1) := by decide +kernel
theorem dL_why_63 : decode cL_why 63 = .ok (.iload 6, 2) := by decide +kernel
theorem dL_why_65 : decode cL_why 65 = .ok (.iconst 3, 1) := by decide +kernel
theorem dL_why_66 : decode cL_why 66 = .ok (.iadd, 1) := by decide +kernel
theorem dL_why_67 : decode cL_why 67 = .ok (.iaload, 1) := by decide +kernel
theorem dL_why_68 : decode cL_why 68 = .ok (.iconst 0, 1) := by decide +kernel
theorem dL_why_69 : decode cL_why 69 = .ok (.aload_n 3, 1) := by decide +kernel
theorem dL_why_70 : decode cL_why 70 = .ok (.invokestatic 41, 3) := by decide +kernel
theorem dL_why_73 : decode cL_why 73 = .ok (.lstore 8, 2) := by decide +kernel
theorem dL_why_75 : decode cL_why 75 = .ok (.aload_n 1, 1) := by decide +kernel
theorem dL_why_76 : decode cL_why 76 = .ok (.iconst 1, 1) := by decide +kernel
theorem dL_why_77 : decode cL_why 77 = .ok (.iaload, 1) := by decide +kernel
theorem dL_why_78 : decode cL_why 78 = .ok (.i2l, 1) := by decide +kernel
theorem dL_why_79 : decode cL_why 79 = .ok (.aload_n 2, 1) := by decide +kernel
theorem dL_why_80 : decode cL_why 80 = .ok (.iload 6, 2) := by decide +kernel
theorem dL_why_82 : decode cL_why 82 = .ok (.iconst 3, 1) := by decide +kernel
theorem dL_why_83 : decode cL_why 83 = .ok (.iadd, 1) := by decide +kernel
theorem dL_why_84 : decode cL_why 84 = .ok (.iaload, 1) := by decide +kernel
theorem dL_why_85 : decode cL_why 85 = .ok (.iconst 1, 1) := by decide +kernel
theorem dL_why_86 : decode cL_why 86 = .ok (.aload_n 3, 1) := by decide +kernel
theorem dL_why_87 : decode cL_why 87 = .ok (.invokestatic 41, 3) := by decide +kernel
theorem dL_why_90 : decode cL_why 90 = .ok (.lmul, 1) := by decide +kernel
theorem dL_why_91 : decode cL_why 91 = .ok (.lstore 10, 2) := by decide +kernel
theorem dL_why_93 : decode cL_why 93 = .ok (.iload_n 0, 1) := by decide +kernel
theorem dL_why_94 : decode cL_why 94 = .ok (.iload 5, 2) := by decide +kernel
theorem dL_why_96 : decode cL_why 96 = .ok (.invokestatic 33, 3) := by decide +kernel
theorem dL_why_99 : decode cL_why 99 = .ok (.iconst 1, 1) := by decide +kernel
theorem dL_why_100 : decode cL_why 100 = .ok (.if_icmp .ne 14, 3) := by decide +kernel
theorem dL_why_103 : decode cL_why 103 = .ok (.iload 7, 2) := by decide +kernel
theorem dL_why_105 : decode cL_why 105 = .ok (.ifCond .gt 9, 3) := by decide +kernel
theorem dL_why_108 : decode cL_why 108 = .ok (.bipush 30, 2) := by decide +kernel
theorem dL_why_110 : decode cL_why 110 = .ok (.iload 5, 2) := by decide +kernel
theorem dL_why_112 : decode cL_why 112 = .ok (.iadd, 1) := by decide +kernel
theorem dL_why_113 : decode cL_why 113 = .ok (.ireturn, 1) := by decide +kernel
theorem dL_why_114 : decode cL_why 114 = .ok (.iload_n 0, 1) := by decide +kernel
theorem dL_why_115 : decode cL_why 115 = .ok (.iload 5, 2) := by decide +kernel
theorem dL_why_117 : decode cL_why 117 = .ok (.invokestatic 33, 3) := by decide +kernel
theorem dL_why_120 : decode cL_why 120 = .ok (.iconst 2, 1) := by decide +kernel
theorem dL_why_121 : decode cL_why 121 = .ok (.if_icmp .ne 14, 3) := by decide +kernel
theorem dL_why_124 : decode cL_why 124 = .ok (.iload 7, 2) := by decide +kernel
theorem dL_why_126 : decode cL_why 126 = .ok (.ifCond .lt 9, 3) := by decide +kernel
theorem dL_why_129 : decode cL_why 129 = .ok (.bipush 40, 2) := by decide +kernel
theorem dL_why_131 : decode cL_why 131 = .ok (.iload 5, 2) := by decide +kernel
theorem dL_why_133 : decode cL_why 133 = .ok (.iadd, 1) := by decide +kernel
theorem dL_why_134 : decode cL_why 134 = .ok (.ireturn, 1) := by decide +kernel
theorem dL_why_135 : decode cL_why 135 = .ok (.iload_n 0, 1) := by decide +kernel
theorem dL_why_136 : decode cL_why 136 = .ok (.iload 5, 2) := by decide +kernel
theorem dL_why_138 : decode cL_why 138 = .ok (.invokestatic 33, 3) := by decide +kernel
theorem dL_why_141 : decode cL_why 141 = .ok (.ifCond .le 6, 3) := by decide +kernel
theorem dL_why_144 : decode cL_why 144 = .ok (.goto 70, 3) := by decide +kernel
theorem dL_why_147 : decode cL_why 147 = .ok (.lload 8, 2) := by decide +kernel
theorem dL_why_149 : decode cL_why 149 = .ok (.lload 10, 2) := by decide +kernel
theorem dL_why_151 : decode cL_why 151 = .ok (.lcmp, 1) := by decide +kernel
theorem dL_why_152 : decode cL_why 152 = .ok (.ifCond .gt 12, 3) := by decide +kernel
theorem dL_why_155 : decode cL_why 155 = .ok (.lload 8, 2) := by decide +kernel
theorem dL_why_157 : decode cL_why 157 = .ok (.lload 10, 2) := by decide +kernel
theorem dL_why_159 : decode cL_why 159 = .ok (.lneg, 1) := by decide +kernel
theorem dL_why_160 : decode cL_why 160 = .ok (.lcmp, 1) := by decide +kernel
theorem dL_why_161 : decode cL_why 161 = .ok (.ifCond .ge 9, 3) := by decide +kernel
theorem dL_why_164 : decode cL_why 164 = .ok (.bipush 20, 2) := by decide +kernel
theorem dL_why_166 : decode cL_why 166 = .ok (.iload 5, 2) := by decide +kernel
theorem dL_why_168 : decode cL_why 168 = .ok (.iadd, 1) := by decide +kernel
theorem dL_why_169 : decode cL_why 169 = .ok (.ireturn, 1) := by decide +kernel
theorem dL_why_170 : decode cL_why 170 = .ok (.iload_n 0, 1) := by decide +kernel
theorem dL_why_171 : decode cL_why 171 = .ok (.iload 5, 2) := by decide +kernel
theorem dL_why_173 : decode cL_why 173 = .ok (.aload_n 1, 1) := by decide +kernel
theorem dL_why_174 : decode cL_why 174 = .ok (.aload_n 2, 1) := by decide +kernel
theorem dL_why_175 : decode cL_why 175 = .ok (.aload 4, 2) := by decide +kernel
theorem dL_why_177 : decode cL_why 177 = .ok (.invokestatic 45, 3) := by decide +kernel
theorem dL_why_180 : decode cL_why 180 = .ok (.aload 4, 2) := by decide +kernel
theorem dL_why_182 : decode cL_why 182 = .ok (.invokestatic 49, 3) := by decide +kernel
theorem dL_why_185 : decode cL_why 185 = .ok (.ifCond .eq 23, 3) := by decide +kernel
theorem dL_why_188 : decode cL_why 188 = .ok (.aload_n 2, 1) := by decide +kernel
theorem dL_why_189 : decode cL_why 189 = .ok (.iload 6, 2) := by decide +kernel
theorem dL_why_191 : decode cL_why 191 = .ok (.iconst 1, 1) := by decide +kernel
theorem dL_why_192 : decode cL_why 192 = .ok (.iadd, 1) := by decide +kernel
theorem dL_why_193 : decode cL_why 193 = .ok (.iaload, 1) := by decide +kernel
theorem dL_why_194 : decode cL_why 194 = .ok (.aload_n 2, 1) := by decide +kernel
theorem dL_why_195 : decode cL_why 195 = .ok (.iload 6, 2) := by decide +kernel
theorem dL_why_197 : decode cL_why 197 = .ok (.iconst 2, 1) := by decide +kernel
theorem dL_why_198 : decode cL_why 198 = .ok (.iadd, 1) := by decide +kernel
theorem dL_why_199 : decode cL_why 199 = .ok (.iaload, 1) := by decide +kernel
theorem dL_why_200 : decode cL_why 200 = .ok (.aload 4, 2) := by decide +kernel
theorem dL_why_202 : decode cL_why 202 = .ok (.invokestatic 56, 3) := by decide +kernel
theorem dL_why_205 : decode cL_why 205 = .ok (.ifCond .lt 9, 3) := by decide +kernel
theorem dL_why_208 : decode cL_why 208 = .ok (.bipush 50, 2) := by decide +kernel
theorem dL_why_210 : decode cL_why 210 = .ok (.iload 5, 2) := by decide +kernel
theorem dL_why_212 : decode cL_why 212 = .ok (.iadd, 1) := by decide +kernel
theorem dL_why_213 : decode cL_why 213 = .ok (.ireturn, 1) := by decide +kernel
theorem dL_why_214 : decode cL_why 214 = .ok (.iinc 5 1, 3) := by decide +kernel
theorem dL_why_217 : decode cL_why 217 = .ok (.goto (-196), 3) := by decide +kernel
theorem dL_why_220 : decode cL_why 220 = .ok (.iconst 0, 1) := by decide +kernel
theorem dL_why_221 : decode cL_why 221 = .ok (.ireturn, 1) := by decide +kernel
theorem dL_settle_0 : decode cL_settle 0 = .ok (.iconst (-1), 1) := by decide +kernel
theorem dL_settle_1 : decode cL_settle 1 = .ok (.istore 4, 2) := by decide +kernel
theorem dL_settle_3 : decode cL_settle 3 = .ok (.bipush 9, 2) := by decide +kernel
theorem dL_settle_5 : decode cL_settle 5 = .ok (.istore 5, 2) := by decide +kernel
theorem dL_settle_7 : decode cL_settle 7 = .ok (.aload_n 0, 1) := by decide +kernel
theorem dL_settle_8 : decode cL_settle 8 = .ok (.iconst 2, 1) := by decide +kernel
theorem dL_settle_9 : decode cL_settle 9 = .ok (.iaload, 1) := by decide +kernel
theorem dL_settle_10 : decode cL_settle 10 = .ok (.istore 6, 2) := by decide +kernel
theorem dL_settle_12 : decode cL_settle 12 = .ok (.aload_n 0, 1) := by decide +kernel
theorem dL_settle_13 : decode cL_settle 13 = .ok (.iconst 0, 1) := by decide +kernel
theorem dL_settle_14 : decode cL_settle 14 = .ok (.iaload, 1) := by decide +kernel
theorem dL_settle_15 : decode cL_settle 15 = .ok (.aload_n 1, 1) := by decide +kernel
theorem dL_settle_16 : decode cL_settle 16 = .ok (.invokestatic 18, 3) := by decide +kernel
theorem dL_settle_19 : decode cL_settle 19 = .ok (.invokestatic 21, 3) := by decide +kernel
theorem dL_settle_22 : decode cL_settle 22 = .ok (.iconst 1, 1) := by decide +kernel
theorem dL_settle_23 : decode cL_settle 23 = .ok (.isub, 1) := by decide +kernel
theorem dL_settle_24 : decode cL_settle 24 = .ok (.istore 7, 2) := by decide +kernel
theorem dL_settle_26 : decode cL_settle 26 = .ok (.iload 7, 2) := by decide +kernel
theorem dL_settle_28 : decode cL_settle 28 = .ok (.ifCond .lt 85, 3) := by decide +kernel
theorem dL_settle_31 : decode cL_settle 31 = .ok (.iconst 0, 1) := by decide +kernel
theorem dL_settle_32 : decode cL_settle 32 = .ok (.istore 8, 2) := by decide +kernel
theorem dL_settle_34 : decode cL_settle 34 = .ok (.iconst 0, 1) := by decide +kernel
theorem dL_settle_35 : decode cL_settle 35 = .ok (.istore 9, 2) := by decide +kernel
theorem dL_settle_37 : decode cL_settle 37 = .ok (.iload 9, 2) := by decide +kernel
theorem dL_settle_39 : decode cL_settle 39 = .ok (.iconst 3, 1) := by decide +kernel
theorem dL_settle_40 : decode cL_settle 40 = .ok (.if_icmp .ge 37, 3) := by decide +kernel
theorem dL_settle_43 : decode cL_settle 43 = .ok (.iload 8, 2) := by decide +kernel
theorem dL_settle_45 : decode cL_settle 45 = .ok (.iload 7, 2) := by decide +kernel
theorem dL_settle_47 : decode cL_settle 47 = .ok (.iload 9, 2) := by decide +kernel
theorem dL_settle_49 : decode cL_settle 49 = .ok (.invokestatic 33, 3) := by decide +kernel
theorem dL_settle_52 : decode cL_settle 52 = .ok (.aload_n 0, 1) := by decide +kernel
theorem dL_settle_53 : decode cL_settle 53 = .ok (.iconst 2, 1) := by decide +kernel
theorem dL_settle_54 : decode cL_settle 54 = .ok (.iaload, 1) := by decide +kernel
theorem dL_settle_55 : decode cL_settle 55 = .ok (.iload 9, 2) := by decide +kernel
theorem dL_settle_57 : decode cL_settle 57 = .ok (.invokestatic 33, 3) := by decide +kernel
theorem dL_settle_60 : decode cL_settle 60 = .ok (.if_icmp .eq 7, 3) := by decide +kernel
theorem dL_settle_63 : decode cL_settle 63 = .ok (.iconst 1, 1) := by decide +kernel
theorem dL_settle_64 : decode cL_settle 64 = .ok (.goto 4, 3) := by decide +kernel
theorem dL_settle_67 : decode cL_settle 67 = .ok (.iconst 0, 1) := by decide +kernel
theorem dL_settle_68 : decode cL_settle 68 = .ok (.iadd, 1) := by decide +kernel
theorem dL_settle_69 : decode cL_settle 69 = .ok (.istore 8, 2) := by decide +kernel
theorem dL_settle_71 : decode cL_settle 71 = .ok (.iinc 9 1, 3) := by decide +kernel
theorem dL_settle_74 : decode cL_settle 74 = .ok (.goto (-37), 3) := by decide +kernel
theorem dL_settle_77 : decode cL_settle 77 = .ok (.iload 8, 2) := by decide +kernel
theorem dL_settle_79 : decode cL_settle 79 = .ok (.iload 5, 2) := by decide +kernel
theorem dL_settle_81 : decode cL_settle 81 = .ok (.if_icmp .gt 26, 3) := by decide +kernel
theorem dL_settle_84 : decode cL_settle 84 = .ok (.iload 7, 2) := by decide +kernel
theorem dL_settle_86 : decode cL_settle 86 = .ok (.aload_n 0, 1) := by decide +kernel
theorem dL_settle_87 : decode cL_settle 87 = .ok (.aload_n 1, 1) := by decide +kernel
theorem dL_settle_88 : decode cL_settle 88 = .ok (.aload_n 2, 1) := by decide +kernel
theorem dL_settle_89 : decode cL_settle 89 = .ok (.aload_n 3, 1) := by decide +kernel
theorem dL_settle_90 : decode cL_settle 90 = .ok (.invokestatic 60, 3) := by decide +kernel
theorem dL_settle_93 : decode cL_settle 93 = .ok (.ifCond .le 6, 3) := by decide +kernel
theorem dL_settle_96 : decode cL_settle 96 = .ok (.goto 11, 3) := by decide +kernel
theorem dL_settle_99 : decode cL_settle 99 = .ok (.iload 7, 2) := by decide +kernel
theorem dL_settle_101 : decode cL_settle 101 = .ok (.istore 4, 2) := by decide +kernel
theorem dL_settle_103 : decode cL_settle 103 = .ok (.iload 8, 2) := by decide +kernel
theorem dL_settle_105 : decode cL_settle 105 = .ok (.istore 5, 2) := by decide +kernel
theorem dL_settle_107 : decode cL_settle 107 = .ok (.iinc 7 (-1), 3) := by decide +kernel
theorem dL_settle_110 : decode cL_settle 110 = .ok (.goto (-84), 3) := by decide +kernel
theorem dL_settle_113 : decode cL_settle 113 = .ok (.aload_n 0, 1) := by decide +kernel
theorem dL_settle_114 : decode cL_settle 114 = .ok (.iconst 3, 1) := by decide +kernel
theorem dL_settle_115 : decode cL_settle 115 = .ok (.iload 4, 2) := by decide +kernel
theorem dL_settle_117 : decode cL_settle 117 = .ok (.ifCond .ge 7, 3) := by decide +kernel
theorem dL_settle_120 : decode cL_settle 120 = .ok (.iconst 0, 1) := by decide +kernel
theorem dL_settle_121 : decode cL_settle 121 = .ok (.goto 4, 3) := by decide +kernel
theorem dL_settle_124 : decode cL_settle 124 = .ok (.iconst 1, 1) := by decide +kernel
theorem dL_settle_125 : decode cL_settle 125 = .ok (.iastore, 1) := by decide +kernel
theorem dL_settle_126 : decode cL_settle 126 = .ok (.aload_n 0, 1) := by decide +kernel
theorem dL_settle_127 : decode cL_settle 127 = .ok (.iconst 2, 1) := by decide +kernel
theorem dL_settle_128 : decode cL_settle 128 = .ok (.iload 4, 2) := by decide +kernel
theorem dL_settle_130 : decode cL_settle 130 = .ok (.ifCond .ge 8, 3) := by decide +kernel
theorem dL_settle_133 : decode cL_settle 133 = .ok (.iload 6, 2) := by decide +kernel
theorem dL_settle_135 : decode cL_settle 135 = .ok (.goto 5, 3) := by decide +kernel
theorem dL_settle_138 : decode cL_settle 138 = .ok (.iload 4, 2) := by decide +kernel
theorem dL_settle_140 : decode cL_settle 140 = .ok (.iastore, 1) := by decide +kernel
theorem dL_settle_141 : decode cL_settle 141 = .ok (.aload_n 0, 1) := by decide +kernel
theorem dL_settle_142 : decode cL_settle 142 = .ok (.iconst 2, 1) := by decide +kernel
theorem dL_settle_143 : decode cL_settle 143 = .ok (.iaload, 1) := by decide +kernel
theorem dL_settle_144 : decode cL_settle 144 = .ok (.iload 6, 2) := by decide +kernel
theorem dL_settle_146 : decode cL_settle 146 = .ok (.if_icmp .ne 7, 3) := by decide +kernel
theorem dL_settle_149 : decode cL_settle 149 = .ok (.iconst 0, 1) := by decide +kernel
theorem dL_settle_150 : decode cL_settle 150 = .ok (.goto 4, 3) := by decide +kernel
theorem dL_settle_153 : decode cL_settle 153 = .ok (.iconst 1, 1) := by decide +kernel
theorem dL_settle_154 : decode cL_settle 154 = .ok (.ireturn, 1) := by decide +kernel
theorem dL_told_0 : decode cL_told 0 = .ok (.bipush 56, 2) := by decide +kernel
theorem dL_told_2 : decode cL_told 2 = .ok (.newarray .long, 2) := by decide +kernel
theorem dL_told_4 : decode cL_told 4 = .ok (.astore 4, 2) := by decide +kernel
theorem dL_told_6 : decode cL_told 6 = .ok (.bipush 56, 2) := by decide +kernel
theorem dL_told_8 : decode cL_told 8 = .ok (.newarray .long, 2) := by decide +kernel
theorem dL_told_10 : decode cL_told 10 = .ok (.astore 5, 2) := by decide +kernel
theorem dL_told_12 : decode cL_told 12 = .ok (.aload_n 2, 1) := by decide +kernel
theorem dL_told_13 : decode cL_told 13 = .ok (.iconst 0, 1) := by decide +kernel
theorem dL_told_14 : decode cL_told 14 = .ok (.iaload, 1) := by decide +kernel
theorem dL_told_15 : decode cL_told 15 = .ok (.aload_n 3, 1) := by decide +kernel
theorem dL_told_16 : decode cL_told 16 = .ok (.invokestatic 18, 3) := by decide +kernel
theorem dL_told_19 : decode cL_told 19 = .ok (.istore 6, 2) := by decide +kernel
theorem dL_told_21 : decode cL_told 21 = .ok (.iload 6, 2) := by decide +kernel
theorem dL_told_23 : decode cL_told 23 = .ok (.invokestatic 21, 3) := by decide +kernel
theorem dL_told_26 : decode cL_told 26 = .ok (.istore 7, 2) := by decide +kernel
theorem dL_told_28 : decode cL_told 28 = .ok (.iconst 0, 1) := by decide +kernel
theorem dL_told_29 : decode cL_told 29 = .ok (.istore 8, 2) := by decide +kernel
theorem dL_told_31 : decode cL_told 31 = .ok (.iconst 0, 1) := by decide +kernel
theorem dL_told_32 : decode cL_told 32 = .ok (.istore 9, 2) := by decide +kernel
theorem dL_told_34 : decode cL_told 34 = .ok (.iconst 0, 1) := by decide +kernel
theorem dL_told_35 : decode cL_told 35 = .ok (.istore 10, 2) := by decide +kernel
theorem dL_told_37 : decode cL_told 37 = .ok (.iconst 0, 1) := by decide +kernel
theorem dL_told_38 : decode cL_told 38 = .ok (.istore 11, 2) := by decide +kernel
theorem dL_told_40 : decode cL_told 40 = .ok (.iconst 0, 1) := by decide +kernel
theorem dL_told_41 : decode cL_told 41 = .ok (.istore 12, 2) := by decide +kernel
theorem dL_told_43 : decode cL_told 43 = .ok (.iload 12, 2) := by decide +kernel
theorem dL_told_45 : decode cL_told 45 = .ok (.iload 7, 2) := by decide +kernel
theorem dL_told_47 : decode cL_told 47 = .ok (.if_icmp .ge 202, 3) := by decide +kernel
theorem dL_told_50 : decode cL_told 50 = .ok (.iload 12, 2) := by decide +kernel
theorem dL_told_52 : decode cL_told 52 = .ok (.aload_n 2, 1) := by decide +kernel
theorem dL_told_53 : decode cL_told 53 = .ok (.aload_n 3, 1) := by decide +kernel
theorem dL_told_54 : decode cL_told 54 = .ok (.aload 4, 2) := by decide +kernel
theorem dL_told_56 : decode cL_told 56 = .ok (.aload 5, 2) := by decide +kernel
theorem dL_told_58 : decode cL_told 58 = .ok (.invokestatic 60, 3) := by decide +kernel
theorem dL_told_61 : decode cL_told 61 = .ok (.istore 13, 2) := by decide +kernel
theorem dL_told_63 : decode cL_told 63 = .ok (.iload 8, 2) := by decide +kernel
theorem dL_told_65 : decode cL_told 65 = .ok (.iload 13, 2) := by decide +kernel
theorem dL_told_67 : decode cL_told 67 = .ok (.ifCond .ne 7, 3) := by decide +kernel
theorem dL_told_70 : decode cL_told 70 = .ok (.iconst 1, 1) := by decide +kernel
theorem dL_told_71 : decode cL_told 71 = .ok (.goto 4, 3) := by decide +kernel
theorem dL_told_74 : decode cL_told 74 = .ok (.iconst 0, 1) := by decide +kernel
theorem dL_told_75 : decode cL_told 75 = .ok (.iadd, 1) := by decide +kernel
theorem dL_told_76 : decode cL_told 76 = .ok (.istore 8, 2) := by decide +kernel
theorem dL_told_78 : decode cL_told 78 = .ok (.iload 9, 2) := by decide +kernel
theorem dL_told_80 : decode cL_told 80 = .ok (.iload 13, 2) := by decide +kernel
theorem dL_told_82 : decode cL_told 82 = .ok (.bipush 10, 2) := by decide +kernel
theorem dL_told_84 : decode cL_told 84 = .ok (.if_icmp .eq 7, 3) := by decide +kernel
theorem dL_told_87 : decode cL_told 87 = .ok (.iconst 1, 1) := by decide +kernel
theorem dL_told_88 : decode cL_told 88 = .ok (.goto 4, 3) := by decide +kernel
theorem dL_told_91 : decode cL_told 91 = .ok (.iconst 0, 1) := by decide +kernel
theorem dL_told_92 : decode cL_told 92 = .ok (.iadd, 1) := by decide +kernel
theorem dL_told_93 : decode cL_told 93 = .ok (.istore 9, 2) := by decide +kernel
theorem dL_told_95 : decode cL_told 95 = .ok (.aload_n 0, 1) := by decide +kernel
theorem dL_told_96 : decode cL_told 96 = .ok (.iload 12, 2) := by decide +kernel
theorem dL_told_98 : decode cL_told 98 = .ok (.invokevirtual 64, 3) := by decide +kernel
theorem dL_told_101 : decode cL_told 101 = .ok (.iload 13, 2) := by decide +kernel
theorem dL_told_103 : decode cL_told 103 = .ok (.bipush 10, 2) := by decide +kernel
theorem dL_told_105 : decode cL_told 105 = .ok (.idiv, 1) := by decide +kernel
theorem dL_told_106 : decode cL_told 106 = .ok (.if_icmp .ne 28, 3) := by decide +kernel
theorem dL_told_109 : decode cL_told 109 = .ok (.aload_n 0, 1) := by decide +kernel
theorem dL_told_110 : decode cL_told 110 = .ok (.iload 12, 2) := by decide +kernel
theorem dL_told_112 : decode cL_told 112 = .ok (.invokevirtual 68, 3) := by decide +kernel
theorem dL_told_115 : decode cL_told 115 = .ok (.iload 13, 2) := by decide +kernel
theorem dL_told_117 : decode cL_told 117 = .ok (.bipush 20, 2) := by decide +kernel
theorem dL_told_119 : decode cL_told 119 = .ok (.if_icmp .ge 7, 3) := by decide +kernel
theorem dL_told_122 : decode cL_told 122 = .ok (.iconst (-1), 1) := by decide +kernel
theorem dL_told_123 : decode cL_told 123 = .ok (.goto 8, 3) := by decide +kernel
theorem dL_told_126 : decode cL_told 126 = .ok (.iload 13, 2) := by decide +kernel
theorem dL_told_128 : decode cL_told 128 = .ok (.bipush 10, 2) := by decide +kernel
theorem dL_told_130 : decode cL_told 130 = .ok (.irem, 1) := by decide +kernel
theorem dL_told_131 : decode cL_told 131 = .ok (.if_icmp .eq 5, 3) := by decide +kernel
theorem dL_told_134 : decode cL_told 134 = .ok (.iconst 0, 1) := by decide +kernel
theorem dL_told_135 : decode cL_told 135 = .ok (.ireturn, 1) := by decide +kernel
theorem dL_told_136 : decode cL_told 136 = .ok (.iload 12, 2) := by decide +kernel
theorem dL_told_138 : decode cL_told 138 = .ok (.iconst (-1), 1) := by decide +kernel
theorem dL_told_139 : decode cL_told 139 = .ok (.aload_n 2, 1) := by decide +kernel
theorem dL_told_140 : decode cL_told 140 = .ok (.aload_n 3, 1) := by decide +kernel
theorem dL_told_141 : decode cL_told 141 = .ok (.aload 4, 2) := by decide +kernel
theorem dL_told_143 : decode cL_told 143 = .ok (.invokestatic 45, 3) := by decide +kernel
theorem dL_told_146 : decode cL_told 146 = .ok (.aload 4, 2) := by decide +kernel
theorem dL_told_148 : decode cL_told 148 = .ok (.invokestatic 49, 3) := by decide +kernel
theorem dL_told_151 : decode cL_told 151 = .ok (.istore 14, 2) := by decide +kernel
theorem dL_told_153 : decode cL_told 153 = .ok (.iload_n 1, 1) := by decide +kernel
theorem dL_told_154 : decode cL_told 154 = .ok (.iload 12, 2) := by decide +kernel
theorem dL_told_156 : decode cL_told 156 = .ok (.bipush 16, 2) := by decide +kernel
theorem dL_told_158 : decode cL_told 158 = .ok (.irem, 1) := by decide +kernel
theorem dL_told_159 : decode cL_told 159 = .ok (.ishr, 1) := by decide +kernel
theorem dL_told_160 : decode cL_told 160 = .ok (.bipush 7, 2) := by decide +kernel
theorem dL_told_162 : decode cL_told 162 = .ok (.invokestatic 71, 3) := by decide +kernel
theorem dL_told_165 : decode cL_told 165 = .ok (.istore 15, 2) := by decide +kernel
theorem dL_told_167 : decode cL_told 167 = .ok (.iload 14, 2) := by decide +kernel
theorem dL_told_169 : decode cL_told 169 = .ok (.ifCond .eq 22, 3) := by decide +kernel
theorem dL_told_172 : decode cL_told 172 = .ok (.iload 15, 2) := by decide +kernel
theorem dL_told_174 : decode cL_told 174 = .ok (.ifCond .eq 13, 3) := by decide +kernel
theorem dL_told_177 : decode cL_told 177 = .ok (.iload 15, 2) := by decide +kernel
theorem dL_told_179 : decode cL_told 179 = .ok (.aload_n 2, 1) := by decide +kernel
theorem dL_told_180 : decode cL_told 180 = .ok (.aload_n 3, 1) := by decide +kernel
theorem dL_told_181 : decode cL_told 181 = .ok (.invokestatic 29, 3) := by decide +kernel
theorem dL_told_184 : decode cL_told 184 = .ok (.ifCond .eq 7, 3) := by decide +kernel
theorem dL_told_187 : decode cL_told 187 = .ok (.iconst 1, 1) := by decide +kernel
theorem dL_told_188 : decode cL_told 188 = .ok (.goto 4, 3) := by decide +kernel
theorem dL_told_191 : decode cL_told 191 = .ok (.iconst 0, 1) := by decide +kernel
theorem dL_told_192 : decode cL_told 192 = .ok (.istore 16, 2) := by decide +kernel
theorem dL_told_194 : decode cL_told 194 = .ok (.iconst 0, 1) := by decide +kernel
theorem dL_told_195 : decode cL_told 195 = .ok (.istore 17, 2) := by decide +kernel
theorem dL_told_197 : decode cL_told 197 = .ok (.iload 17, 2) := by decide +kernel
theorem dL_told_199 : decode cL_told 199 = .ok (.iconst 2, 1) := by decide +kernel
theorem dL_told_200 : decode cL_told 200 = .ok (.if_icmp .ge 43, 3) := by decide +kernel
theorem dL_told_203 : decode cL_told 203 = .ok (.aload_n 0, 1) := by decide +kernel
theorem dL_told_204 : decode cL_told 204 = .ok (.iload 12, 2) := by decide +kernel
theorem dL_told_206 : decode cL_told 206 = .ok (.iload 15, 2) := by decide +kernel
theorem dL_told_208 : decode cL_told 208 = .ok (.iload 17, 2) := by decide +kernel
theorem dL_told_210 : decode cL_told 210 = .ok (.invokevirtual 74, 3) := by decide +kernel
theorem dL_told_213 : decode cL_told 213 = .ok (.iload 16, 2) := by decide +kernel
theorem dL_told_215 : decode cL_told 215 = .ok (.ifCond .eq 15, 3) := by decide +kernel
theorem dL_told_218 : decode cL_told 218 = .ok (.iload 15, 2) := by decide +kernel
theorem dL_told_220 : decode cL_told 220 = .ok (.iload 17, 2) := by decide +kernel
theorem dL_told_222 : decode cL_told 222 = .ok (.aload 4, 2) := by decide +kernel
theorem dL_told_224 : decode cL_told 224 = .ok (.invokestatic 41, 3) := by decide +kernel
theorem dL_told_227 : decode cL_told 227 = .ok (.goto 4, 3) := by decide +kernel
theorem dL_told_230 : decode cL_told 230 = .ok (.lconst 0, 1) := by decide +kernel
theorem dL_told_231 : decode cL_told 231 = .ok (.lcmp, 1) := by decide +kernel
theorem dL_told_232 : decode cL_told 232 = .ok (.ifCond .eq 5, 3) := by decide +kernel
theorem dL_told_235 : decode cL_told 235 = .ok (.iconst 0, 1) := by decide +kernel
theorem dL_told_236 : decode cL_told 236 = .ok (.ireturn, 1) := by decide +kernel
theorem dL_told_237 : decode cL_told 237 = .ok (.iinc 17 1, 3) := by decide +kernel
theorem dL_told_240 : decode cL_told 240 = .ok (.goto (-43), 3) := by decide +kernel
theorem dL_told_243 : decode cL_told 243 = .ok (.iinc 12 1, 3) := by decide +kernel
theorem dL_told_246 : decode cL_told 246 = .ok (.goto (-203), 3) := by decide +kernel
theorem dL_told_249 : decode cL_told 249 = .ok (.iconst 0, 1) := by decide +kernel
theorem dL_told_250 : decode cL_told 250 = .ok (.istore 12, 2) := by decide +kernel
theorem dL_told_252 : decode cL_told 252 = .ok (.iload 12, 2) := by decide +kernel
theorem dL_told_254 : decode cL_told 254 = .ok (.aload_n 2, 1) := by decide +kernel
theorem dL_told_255 : decode cL_told 255 = .ok (.iconst 0, 1) := by decide +kernel
theorem dL_told_256 : decode cL_told 256 = .ok (.iaload, 1) := by decide +kernel
theorem dL_told_257 : decode cL_told 257 = .ok (.if_icmp .ge 66, 3) := by decide +kernel
theorem dL_told_260 : decode cL_told 260 = .ok (.iconst 0, 1) := by decide +kernel
theorem dL_told_261 : decode cL_told 261 = .ok (.istore 13, 2) := by decide +kernel
theorem dL_told_263 : decode cL_told 263 = .ok (.iload 13, 2) := by decide +kernel
theorem dL_told_265 : decode cL_told 265 = .ok (.iconst 4, 1) := by decide +kernel
theorem dL_told_266 : decode cL_told 266 = .ok (.if_icmp .ge 51, 3) := by decide +kernel
theorem dL_told_269 : decode cL_told 269 = .ok (.aload_n 0, 1) := by decide +kernel
theorem dL_told_270 : decode cL_told 270 = .ok (.iload 12, 2) := by decide +kernel
theorem dL_told_272 : decode cL_told 272 = .ok (.iload 13, 2) := by decide +kernel
theorem dL_told_274 : decode cL_told 274 = .ok (.invokevirtual 78, 3) := by decide +kernel
theorem dL_told_277 : decode cL_told 277 = .ok (.iload 13, 2) := by decide +kernel
theorem dL_told_279 : decode cL_told 279 = .ok (.iconst 2, 1) := by decide +kernel
theorem dL_told_280 : decode cL_told 280 = .ok (.if_icmp .ne 17, 3) := by decide +kernel
theorem dL_told_283 : decode cL_told 283 = .ok (.iload 12, 2) := by decide +kernel
theorem dL_told_285 : decode cL_told 285 = .ok (.aload_n 3, 1) := by decide +kernel
theorem dL_told_286 : decode cL_told 286 = .ok (.invokestatic 8, 3) := by decide +kernel
theorem dL_told_289 : decode cL_told 289 = .ok (.iconst 1, 1) := by decide +kernel
theorem dL_told_290 : decode cL_told 290 = .ok (.if_icmp .ne 7, 3) := by decide +kernel
theorem dL_told_293 : decode cL_told 293 = .ok (.iconst (-1), 1) := by decide +kernel
theorem dL_told_294 : decode cL_told 294 = .ok (.goto 12, 3) := by decide +kernel
theorem dL_told_297 : decode cL_told 297 = .ok (.aload_n 3, 1) := by decide +kernel
theorem dL_told_298 : decode cL_told 298 = .ok (.iconst 4, 1) := by decide +kernel
theorem dL_told_299 : decode cL_told 299 = .ok (.iload 12, 2) := by decide +kernel
theorem dL_told_301 : decode cL_told 301 = .ok (.imul, 1) := by decide +kernel
theorem dL_told_302 : decode cL_told 302 = .ok (.iload 13, 2) := by decide +kernel
theorem dL_told_304 : decode cL_told 304 = .ok (.iadd, 1) := by decide +kernel
theorem dL_told_305 : decode cL_told 305 = .ok (.iaload, 1) := by decide +kernel
theorem dL_told_306 : decode cL_told 306 = .ok (.if_icmp .eq 5, 3) := by decide +kernel
theorem dL_told_309 : decode cL_told 309 = .ok (.iconst 0, 1) := by decide +kernel
theorem dL_told_310 : decode cL_told 310 = .ok (.ireturn, 1) := by decide +kernel
theorem dL_told_311 : decode cL_told 311 = .ok (.iinc 13 1, 3) := by decide +kernel
theorem dL_told_314 : decode cL_told 314 = .ok (.goto (-51), 3) := by decide +kernel
theorem dL_told_317 : decode cL_told 317 = .ok (.iinc 12 1, 3) := by decide +kernel
theorem dL_told_320 : decode cL_told 320 = .ok (.goto (-68), 3) := by decide +kernel
theorem dL_told_323 : decode cL_told 323 = .ok (.aload_n 2, 1) := by decide +kernel
theorem dL_told_324 : decode cL_told 324 = .ok (.iconst 2, 1) := by decide +kernel
theorem dL_told_325 : decode cL_told 325 = .ok (.iaload, 1) := by decide +kernel
theorem dL_told_326 : decode cL_told 326 = .ok (.iconst (-1), 1) := by decide +kernel
theorem dL_told_327 : decode cL_told 327 = .ok (.aload_n 2, 1) := by decide +kernel
theorem dL_told_328 : decode cL_told 328 = .ok (.aload_n 3, 1) := by decide +kernel
theorem dL_told_329 : decode cL_told 329 = .ok (.aload 4, 2) := by decide +kernel
theorem dL_told_331 : decode cL_told 331 = .ok (.invokestatic 45, 3) := by decide +kernel
theorem dL_told_334 : decode cL_told 334 = .ok (.aload_n 2, 1) := by decide +kernel
theorem dL_told_335 : decode cL_told 335 = .ok (.iconst 3, 1) := by decide +kernel
theorem dL_told_336 : decode cL_told 336 = .ok (.iaload, 1) := by decide +kernel
theorem dL_told_337 : decode cL_told 337 = .ok (.iconst 1, 1) := by decide +kernel
theorem dL_told_338 : decode cL_told 338 = .ok (.if_icmp .ne 15, 3) := by decide +kernel
theorem dL_told_341 : decode cL_told 341 = .ok (.aload 4, 2) := by decide +kernel
theorem dL_told_343 : decode cL_told 343 = .ok (.invokestatic 49, 3) := by decide +kernel
theorem dL_told_346 : decode cL_told 346 = .ok (.ifCond .eq 7, 3) := by decide +kernel
theorem dL_told_349 : decode cL_told 349 = .ok (.iconst 1, 1) := by decide +kernel
theorem dL_told_350 : decode cL_told 350 = .ok (.goto 4, 3) := by decide +kernel
theorem dL_told_353 : decode cL_told 353 = .ok (.iconst 0, 1) := by decide +kernel
theorem dL_told_354 : decode cL_told 354 = .ok (.istore 12, 2) := by decide +kernel
theorem dL_told_356 : decode cL_told 356 = .ok (.aload_n 2, 1) := by decide +kernel
theorem dL_told_357 : decode cL_told 357 = .ok (.iconst 3, 1) := by decide +kernel
theorem dL_told_358 : decode cL_told 358 = .ok (.iaload, 1) := by decide +kernel
theorem dL_told_359 : decode cL_told 359 = .ok (.iconst 1, 1) := by decide +kernel
theorem dL_told_360 : decode cL_told 360 = .ok (.if_icmp .ne 10, 3) := by decide +kernel
theorem dL_told_363 : decode cL_told 363 = .ok (.iload 12, 2) := by decide +kernel
theorem dL_told_365 : decode cL_told 365 = .ok (.ifCond .ne 5, 3) := by decide +kernel
theorem dL_told_368 : decode cL_told 368 = .ok (.iconst 0, 1) := by decide +kernel
theorem dL_told_369 : decode cL_told 369 = .ok (.ireturn, 1) := by decide +kernel
theorem dL_told_370 : decode cL_told 370 = .ok (.iconst 0, 1) := by decide +kernel
theorem dL_told_371 : decode cL_told 371 = .ok (.istore 13, 2) := by decide +kernel
theorem dL_told_373 : decode cL_told 373 = .ok (.iload 13, 2) := by decide +kernel
theorem dL_told_375 : decode cL_told 375 = .ok (.bipush 7, 2) := by decide +kernel
theorem dL_told_377 : decode cL_told 377 = .ok (.if_icmp .ge 136, 3) := by decide +kernel
theorem dL_told_380 : decode cL_told 380 = .ok (.iload 12, 2) := by decide +kernel
theorem dL_told_382 : decode cL_told 382 = .ok (.ifCond .eq 22, 3) := by decide +kernel
theorem dL_told_385 : decode cL_told 385 = .ok (.iload 13, 2) := by decide +kernel
theorem dL_told_387 : decode cL_told 387 = .ok (.ifCond .eq 13, 3) := by decide +kernel
theorem dL_told_390 : decode cL_told 390 = .ok (.iload 13, 2) := by decide +kernel
theorem dL_told_392 : decode cL_told 392 = .ok (.aload_n 2, 1) := by decide +kernel
theorem dL_told_393 : decode cL_told 393 = .ok (.aload_n 3, 1) := by decide +kernel
theorem dL_told_394 : decode cL_told 394 = .ok (.invokestatic 29, 3) := by decide +kernel
theorem dL_told_397 : decode cL_told 397 = .ok (.ifCond .eq 7, 3) := by decide +kernel
theorem dL_told_400 : decode cL_told 400 = .ok (.iconst 1, 1) := by decide +kernel
theorem dL_told_401 : decode cL_told 401 = .ok (.goto 4, 3) := by decide +kernel
theorem dL_told_404 : decode cL_told 404 = .ok (.iconst 0, 1) := by decide +kernel
theorem dL_told_405 : decode cL_told 405 = .ok (.istore 14, 2) := by decide +kernel
theorem dL_told_407 : decode cL_told 407 = .ok (.iload 11, 2) := by decide +kernel
theorem dL_told_409 : decode cL_told 409 = .ok (.iload 13, 2) := by decide +kernel
theorem dL_told_411 : decode cL_told 411 = .ok (.ifCond .le 17, 3) := by decide +kernel
theorem dL_told_414 : decode cL_told 414 = .ok (.iload 13, 2) := by decide +kernel
theorem dL_told_416 : decode cL_told 416 = .ok (.aload_n 2, 1) := by decide +kernel
theorem dL_told_417 : decode cL_told 417 = .ok (.aload_n 3, 1) := by decide +kernel
theorem dL_told_418 : decode cL_told 418 = .ok (.invokestatic 29, 3) := by decide +kernel
theorem dL_told_421 : decode cL_told 421 = .ok (.ifCond .eq 7, 3) := by decide +kernel
theorem dL_told_424 : decode cL_told 424 = .ok (.iconst 1, 1) := by decide +kernel
theorem dL_told_425 : decode cL_told 425 = .ok (.goto 4, 3) := by decide +kernel
theorem dL_told_428 : decode cL_told 428 = .ok (.iconst 0, 1) := by decide +kernel
theorem dL_told_429 : decode cL_told 429 = .ok (.iadd, 1) := by decide +kernel
theorem dL_told_430 : decode cL_told 430 = .ok (.istore 11, 2) := by decide +kernel
theorem dL_told_432 : decode cL_told 432 = .ok (.iload 10, 2) := by decide +kernel
theorem dL_told_434 : decode cL_told 434 = .ok (.iload 13, 2) := by decide +kernel
theorem dL_told_436 : decode cL_told 436 = .ok (.ifCond .le 20, 3) := by decide +kernel
theorem dL_told_439 : decode cL_told 439 = .ok (.iload 13, 2) := by decide +kernel
theorem dL_told_441 : decode cL_told 441 = .ok (.aload_n 2, 1) := by decide +kernel
theorem dL_told_442 : decode cL_told 442 = .ok (.aload_n 3, 1) := by decide +kernel
theorem dL_told_443 : decode cL_told 443 = .ok (.invokestatic 29, 3) := by decide +kernel
theorem dL_told_446 : decode cL_told 446 = .ok (.ifCond .eq 10, 3) := by decide +kernel
theorem dL_told_449 : decode cL_told 449 = .ok (.iconst 1, 1) := by decide +kernel
theorem dL_told_450 : decode cL_told 450 = .ok (.iload 13, 2) := by decide +kernel
theorem dL_told_452 : decode cL_told 452 = .ok (.ishl, 1) := by decide +kernel
theorem dL_told_453 : decode cL_told 453 = .ok (.goto 4, 3) := by decide +kernel
theorem dL_told_456 : decode cL_told 456 = .ok (.iconst 0, 1) := by decide +kernel
theorem dL_told_457 : decode cL_told 457 = .ok (.ior, 1) := by decide +kernel
theorem dL_told_458 : decode cL_told 458 = .ok (.istore 10, 2) := by decide +kernel
theorem dL_told_460 : decode cL_told 460 = .ok (.iconst 0, 1) := by decide +kernel
theorem dL_told_461 : decode cL_told 461 = .ok (.istore 15, 2) := by decide +kernel
theorem dL_told_463 : decode cL_told 463 = .ok (.iload 15, 2) := by decide +kernel
theorem dL_told_465 : decode cL_told 465 = .ok (.iconst 2, 1) := by decide +kernel
theorem dL_told_466 : decode cL_told 466 = .ok (.if_icmp .ge 41, 3) := by decide +kernel
theorem dL_told_469 : decode cL_told 469 = .ok (.aload_n 0, 1) := by decide +kernel
theorem dL_told_470 : decode cL_told 470 = .ok (.iload 13, 2) := by decide +kernel
theorem dL_told_472 : decode cL_told 472 = .ok (.iload 15, 2) := by decide +kernel
theorem dL_told_474 : decode cL_told 474 = .ok (.invokevirtual 80, 3) := by decide +kernel
theorem dL_told_477 : decode cL_told 477 = .ok (.iload 14, 2) := by decide +kernel
theorem dL_told_479 : decode cL_told 479 = .ok (.ifCond .eq 15, 3) := by decide +kernel
theorem dL_told_482 : decode cL_told 482 = .ok (.iload 13, 2) := by decide +kernel
theorem dL_told_484 : decode cL_told 484 = .ok (.iload 15, 2) := by decide +kernel
theorem dL_told_486 : decode cL_told 486 = .ok (.aload 4, 2) := by decide +kernel
theorem dL_told_488 : decode cL_told 488 = .ok (.invokestatic 41, 3) := by decide +kernel
theorem dL_told_491 : decode cL_told 491 = .ok (.goto 4, 3) := by decide +kernel
theorem dL_told_494 : decode cL_told 494 = .ok (.lconst 0, 1) := by decide +kernel
theorem dL_told_495 : decode cL_told 495 = .ok (.lcmp, 1) := by decide +kernel
theorem dL_told_496 : decode cL_told 496 = .ok (.ifCond .eq 5, 3) := by decide +kernel
theorem dL_told_499 : decode cL_told 499 = .ok (.iconst 0, 1) := by decide +kernel
theorem dL_told_500 : decode cL_told 500 = .ok (.ireturn, 1) := by decide +kernel
theorem dL_told_501 : decode cL_told 501 = .ok (.iinc 15 1, 3) := by decide +kernel
theorem dL_told_504 : decode cL_told 504 = .ok (.goto (-41), 3) := by decide +kernel
theorem dL_told_507 : decode cL_told 507 = .ok (.iinc 13 1, 3) := by decide +kernel
theorem dL_told_510 : decode cL_told 510 = .ok (.goto (-137), 3) := by decide +kernel
theorem dL_told_513 : decode cL_told 513 = .ok (.aload_n 0, 1) := by decide +kernel
theorem dL_told_514 : decode cL_told 514 = .ok (.iload 12, 2) := by decide +kernel
theorem dL_told_516 : decode cL_told 516 = .ok (.aload_n 2, 1) := by decide +kernel
theorem dL_told_517 : decode cL_told 517 = .ok (.aload_n 3, 1) := by decide +kernel
theorem dL_told_518 : decode cL_told 518 = .ok (.aload 4, 2) := by decide +kernel
theorem dL_told_520 : decode cL_told 520 = .ok (.invokestatic 84, 3) := by decide +kernel
theorem dL_told_523 : decode cL_told 523 = .ok (.ifCond .ne 5, 3) := by decide +kernel
theorem dL_told_526 : decode cL_told 526 = .ok (.iconst 0, 1) := by decide +kernel
theorem dL_told_527 : decode cL_told 527 = .ok (.ireturn, 1) := by decide +kernel
theorem dL_told_528 : decode cL_told 528 = .ok (.iconst 0, 1) := by decide +kernel
theorem dL_told_529 : decode cL_told 529 = .ok (.istore 13, 2) := by decide +kernel
theorem dL_told_531 : decode cL_told 531 = .ok (.iload 13, 2) := by decide +kernel
theorem dL_told_533 : decode cL_told 533 = .ok (.iload 6, 2) := by decide +kernel
theorem dL_told_535 : decode cL_told 535 = .ok (.if_icmp .ge 90, 3) := by decide +kernel
theorem dL_told_538 : decode cL_told 538 = .ok (.iload 13, 2) := by decide +kernel
theorem dL_told_540 : decode cL_told 540 = .ok (.aload_n 2, 1) := by decide +kernel
theorem dL_told_541 : decode cL_told 541 = .ok (.aload_n 3, 1) := by decide +kernel
theorem dL_told_542 : decode cL_told 542 = .ok (.invokestatic 53, 3) := by decide +kernel
theorem dL_told_545 : decode cL_told 545 = .ok (.istore 14, 2) := by decide +kernel
theorem dL_told_547 : decode cL_told 547 = .ok (.aload_n 0, 1) := by decide +kernel
theorem dL_told_548 : decode cL_told 548 = .ok (.iload 13, 2) := by decide +kernel
theorem dL_told_550 : decode cL_told 550 = .ok (.iconst 0, 1) := by decide +kernel
theorem dL_told_551 : decode cL_told 551 = .ok (.invokevirtual 88, 3) := by decide +kernel
theorem dL_told_554 : decode cL_told 554 = .ok (.iload 14, 2) := by decide +kernel
theorem dL_told_556 : decode cL_told 556 = .ok (.if_icmp .ne 61, 3) := by decide +kernel
theorem dL_told_559 : decode cL_told 559 = .ok (.aload_n 0, 1) := by decide +kernel
theorem dL_told_560 : decode cL_told 560 = .ok (.iload 13, 2) := by decide +kernel
theorem dL_told_562 : decode cL_told 562 = .ok (.iconst 1, 1) := by decide +kernel
theorem dL_told_563 : decode cL_told 563 = .ok (.invokevirtual 88, 3) := by decide +kernel
theorem dL_told_566 : decode cL_told 566 = .ok (.aload_n 2, 1) := by decide +kernel
theorem dL_told_567 : decode cL_told 567 = .ok (.iconst 2, 1) := by decide +kernel
theorem dL_told_568 : decode cL_told 568 = .ok (.iaload, 1) := by decide +kernel
theorem dL_told_569 : decode cL_told 569 = .ok (.iload 13, 2) := by decide +kernel
theorem dL_told_571 : decode cL_told 571 = .ok (.invokestatic 33, 3) := by decide +kernel
theorem dL_told_574 : decode cL_told 574 = .ok (.if_icmp .ne 43, 3) := by decide +kernel
theorem dL_told_577 : decode cL_told 577 = .ok (.aload_n 0, 1) := by decide +kernel
theorem dL_told_578 : decode cL_told 578 = .ok (.iload 13, 2) := by decide +kernel
theorem dL_told_580 : decode cL_told 580 = .ok (.iconst 2, 1) := by decide +kernel
theorem dL_told_581 : decode cL_told 581 = .ok (.invokevirtual 88, 3) := by decide +kernel
theorem dL_told_584 : decode cL_told 584 = .ok (.iload 12, 2) := by decide +kernel
theorem dL_told_586 : decode cL_told 586 = .ok (.ifCond .eq 27, 3) := by decide +kernel
theorem dL_told_589 : decode cL_told 589 = .ok (.aload_n 3, 1) := by decide +kernel
theorem dL_told_590 : decode cL_told 590 = .ok (.iconst 4, 1) := by decide +kernel
theorem dL_told_591 : decode cL_told 591 = .ok (.iload 14, 2) := by decide +kernel
theorem dL_told_593 : decode cL_told 593 = .ok (.imul, 1) := by decide +kernel
theorem dL_told_594 : decode cL_told 594 = .ok (.iconst 1, 1) := by decide +kernel
theorem dL_told_595 : decode cL_told 595 = .ok (.iadd, 1) := by decide +kernel
theorem dL_told_596 : decode cL_told 596 = .ok (.iaload, 1) := by decide +kernel
theorem dL_told_597 : decode cL_told 597 = .ok (.aload_n 3, 1) := by decide +kernel
theorem dL_told_598 : decode cL_told 598 = .ok (.iconst 4, 1) := by decide +kernel
theorem dL_told_599 : decode cL_told 599 = .ok (.iload 14, 2) := by decide +kernel
theorem dL_told_601 : decode cL_told 601 = .ok (.imul, 1) := by decide +kernel
theorem dL_told_602 : decode cL_told 602 = .ok (.iconst 2, 1) := by decide +kernel
theorem dL_told_603 : decode cL_told 603 = .ok (.iadd, 1) := by decide +kernel
theorem dL_told_604 : decode cL_told 604 = .ok (.iaload, 1) := by decide +kernel
theorem dL_told_605 : decode cL_told 605 = .ok (.aload 4, 2) := by decide +kernel
theorem dL_told_607 : decode cL_told 607 = .ok (.invokestatic 56, 3) := by decide +kernel
theorem dL_told_610 : decode cL_told 610 = .ok (.goto 4, 3) := by decide +kernel
theorem dL_told_613 : decode cL_told 613 = .ok (.iconst 0, 1) := by decide +kernel
theorem dL_told_614 : decode cL_told 614 = .ok (.if_icmp .eq 5, 3) := by decide +kernel
theorem dL_told_617 : decode cL_told 617 = .ok (.iconst 0, 1) := by decide +kernel
theorem dL_told_618 : decode cL_told 618 = .ok (.ireturn, 1) := by decide +kernel
theorem dL_told_619 : decode cL_told 619 = .ok (.iinc 13 1, 3) := by decide +kernel
theorem dL_told_622 : decode cL_told 622 = .ok (.goto (-91), 3) := by decide +kernel
theorem dL_told_625 : decode cL_told 625 = .ok (.aload_n 0, 1) := by decide +kernel
theorem dL_told_626 : decode cL_told 626 = .ok (.iconst 0, 1) := by decide +kernel
theorem dL_told_627 : decode cL_told 627 = .ok (.invokevirtual 91, 3) := by decide +kernel
theorem dL_told_630 : decode cL_told 630 = .ok (.aload_n 2, 1) := by decide +kernel
theorem dL_told_631 : decode cL_told 631 = .ok (.iconst 0, 1) := by decide +kernel
theorem dL_told_632 : decode cL_told 632 = .ok (.iaload, 1) := by decide +kernel
theorem dL_told_633 : decode cL_told 633 = .ok (.if_icmp .ne 78, 3) := by decide +kernel
theorem dL_told_636 : decode cL_told 636 = .ok (.aload_n 0, 1) := by decide +kernel
theorem dL_told_637 : decode cL_told 637 = .ok (.iconst 1, 1) := by decide +kernel
theorem dL_told_638 : decode cL_told 638 = .ok (.invokevirtual 91, 3) := by decide +kernel
theorem dL_told_641 : decode cL_told 641 = .ok (.iload 6, 2) := by decide +kernel
theorem dL_told_643 : decode cL_told 643 = .ok (.if_icmp .ne 68, 3) := by decide +kernel
theorem dL_told_646 : decode cL_told 646 = .ok (.aload_n 0, 1) := by decide +kernel
theorem dL_told_647 : decode cL_told 647 = .ok (.iconst 2, 1) := by decide +kernel
theorem dL_told_648 : decode cL_told 648 = .ok (.invokevirtual 91, 3) := by decide +kernel
theorem dL_told_651 : decode cL_told 651 = .ok (.aload_n 2, 1) := by decide +kernel
theorem dL_told_652 : decode cL_told 652 = .ok (.iconst 1, 1) := by decide +kernel
theorem dL_told_653 : decode cL_told 653 = .ok (.iaload, 1) := by decide +kernel
theorem dL_told_654 : decode cL_told 654 = .ok (.if_icmp .ne 57, 3) := by decide +kernel
theorem dL_told_657 : decode cL_told 657 = .ok (.aload_n 0, 1) := by decide +kernel
theorem dL_told_658 : decode cL_told 658 = .ok (.iconst 3, 1) := by decide +kernel
theorem dL_told_659 : decode cL_told 659 = .ok (.invokevirtual 91, 3) := by decide +kernel
theorem dL_told_662 : decode cL_told 662 = .ok (.aload_n 2, 1) := by decide +kernel
theorem dL_told_663 : decode cL_told 663 = .ok (.iconst 2, 1) := by decide +kernel
theorem dL_told_664 : decode cL_told 664 = .ok (.iaload, 1) := by decide +kernel
theorem dL_told_665 : decode cL_told 665 = .ok (.if_icmp .ne 46, 3) := by decide +kernel
theorem dL_told_668 : decode cL_told 668 = .ok (.aload_n 0, 1) := by decide +kernel
theorem dL_told_669 : decode cL_told 669 = .ok (.iconst 4, 1) := by decide +kernel
theorem dL_told_670 : decode cL_told 670 = .ok (.invokevirtual 91, 3) := by decide +kernel
theorem dL_told_673 : decode cL_told 673 = .ok (.aload_n 2, 1) := by decide +kernel
theorem dL_told_674 : decode cL_told 674 = .ok (.iconst 3, 1) := by decide +kernel
theorem dL_told_675 : decode cL_told 675 = .ok (.iaload, 1) := by decide +kernel
theorem dL_told_676 : decode cL_told 676 = .ok (.if_icmp .ne 35, 3) := by decide +kernel
theorem dL_told_679 : decode cL_told 679 = .ok (.aload_n 0, 1) := by decide +kernel
theorem dL_told_680 : decode cL_told 680 = .ok (.iconst 5, 1) := by decide +kernel
theorem dL_told_681 : decode cL_told 681 = .ok (.invokevirtual 91, 3) := by decide +kernel
theorem dL_told_684 : decode cL_told 684 = .ok (.iload 8, 2) := by decide +kernel
theorem dL_told_686 : decode cL_told 686 = .ok (.if_icmp .ne 25, 3) := by decide +kernel
theorem dL_told_689 : decode cL_told 689 = .ok (.aload_n 0, 1) := by decide +kernel
theorem dL_told_690 : decode cL_told 690 = .ok (.bipush 6, 2) := by decide +kernel
theorem dL_told_692 : decode cL_told 692 = .ok (.invokevirtual 91, 3) := by decide +kernel
theorem dL_told_695 : decode cL_told 695 = .ok (.iload 9, 2) := by decide +kernel
theorem dL_told_697 : decode cL_told 697 = .ok (.if_icmp .ne 14, 3) := by decide +kernel
theorem dL_told_700 : decode cL_told 700 = .ok (.aload_n 0, 1) := by decide +kernel
theorem dL_told_701 : decode cL_told 701 = .ok (.bipush 7, 2) := by decide +kernel
theorem dL_told_703 : decode cL_told 703 = .ok (.invokevirtual 91, 3) := by decide +kernel
theorem dL_told_706 : decode cL_told 706 = .ok (.iload 10, 2) := by decide +kernel
theorem dL_told_708 : decode cL_told 708 = .ok (.if_icmp .eq 5, 3) := by decide +kernel
theorem dL_told_711 : decode cL_told 711 = .ok (.iconst 0, 1) := by decide +kernel
theorem dL_told_712 : decode cL_told 712 = .ok (.ireturn, 1) := by decide +kernel
theorem dL_told_713 : decode cL_told 713 = .ok (.aload_n 0, 1) := by decide +kernel
theorem dL_told_714 : decode cL_told 714 = .ok (.iload 12, 2) := by decide +kernel
theorem dL_told_716 : decode cL_told 716 = .ok (.iload 11, 2) := by decide +kernel
theorem dL_told_718 : decode cL_told 718 = .ok (.aload_n 2, 1) := by decide +kernel
theorem dL_told_719 : decode cL_told 719 = .ok (.aload_n 3, 1) := by decide +kernel
theorem dL_told_720 : decode cL_told 720 = .ok (.aload 4, 2) := by decide +kernel
theorem dL_told_722 : decode cL_told 722 = .ok (.invokestatic 94, 3) := by decide +kernel
theorem dL_told_725 : decode cL_told 725 = .ok (.ireturn, 1) := by decide +kernel
theorem dL_currents_0 : decode cL_currents 0 = .ok (.iconst 0, 1) := by decide +kernel
theorem dL_currents_1 : decode cL_currents 1 = .ok (.istore 5, 2) := by decide +kernel
theorem dL_currents_3 : decode cL_currents 3 = .ok (.iload 5, 2) := by decide +kernel
theorem dL_currents_5 : decode cL_currents 5 = .ok (.aload_n 2, 1) := by decide +kernel
theorem dL_currents_6 : decode cL_currents 6 = .ok (.iconst 0, 1) := by decide +kernel
theorem dL_currents_7 : decode cL_currents 7 = .ok (.iaload, 1) := by decide +kernel
theorem dL_currents_8 : decode cL_currents 8 = .ok (.if_icmp .ge 174, 3) := by decide +kernel
theorem dL_currents_11 : decode cL_currents 11 = .ok (.iload 5, 2) := by decide +kernel
theorem dL_currents_13 : decode cL_currents 13 = .ok (.aload_n 3, 1) := by decide +kernel
theorem dL_currents_14 : decode cL_currents 14 = .ok (.invokestatic 8, 3) := by decide +kernel
theorem dL_currents_17 : decode cL_currents 17 = .ok (.ifCond .eq 6, 3) := by decide +kernel
theorem dL_currents_20 : decode cL_currents 20 = .ok (.goto 156, 3) := by decide +kernel
theorem dL_currents_23 : decode cL_currents 23 = .ok (.aload_n 3, 1) := by decide +kernel
theorem dL_currents_24 : decode cL_currents 24 = .ok (.iconst 4, 1) := by decide +kernel
theorem dL_currents_25 : decode cL_currents 25 = .ok (.iload 5, 2) := by decide +kernel
theorem dL_currents_27 : decode cL_currents 27 = .ok (.imul, 1) := by decide +kernel
theorem dL_currents_28 : decode cL_currents 28 = .ok (.iconst 1, 1) := by decide +kernel
theorem dL_currents_29 : decode cL_currents 29 = .ok (.iadd, 1) := by decide +kernel
theorem dL_currents_30 : decode cL_currents 30 = .ok (.iaload, 1) := by decide +kernel
theorem dL_currents_31 : decode cL_currents 31 = .ok (.istore 6, 2) := by decide +kernel
theorem dL_currents_33 : decode cL_currents 33 = .ok (.aload_n 3, 1) := by decide +kernel
theorem dL_currents_34 : decode cL_currents 34 = .ok (.iconst 4, 1) := by decide +kernel
theorem dL_currents_35 : decode cL_currents 35 = .ok (.iload 5, 2) := by decide +kernel
theorem dL_currents_37 : decode cL_currents 37 = .ok (.imul, 1) := by decide +kernel
theorem dL_currents_38 : decode cL_currents 38 = .ok (.iconst 2, 1) := by decide +kernel
theorem dL_currents_39 : decode cL_currents 39 = .ok (.iadd, 1) := by decide +kernel
theorem dL_currents_40 : decode cL_currents 40 = .ok (.iaload, 1) := by decide +kernel
theorem dL_currents_41 : decode cL_currents 41 = .ok (.istore 7, 2) := by decide +kernel
theorem dL_currents_43 : decode cL_currents 43 = .ok (.iload_n 1, 1) := by decide +kernel
theorem dL_currents_44 : decode cL_currents 44 = .ok (.ifCond .eq 51, 3) := by decide +kernel
theorem dL_currents_47 : decode cL_currents 47 = .ok (.aload_n 3, 1) := by decide +kernel
theorem dL_currents_48 : decode cL_currents 48 = .ok (.iconst 4, 1) := by decide +kernel
theorem dL_currents_49 : decode cL_currents 49 = .ok (.iload 5, 2) := by decide +kernel
theorem dL_currents_51 : decode cL_currents 51 = .ok (.imul, 1) := by decide +kernel
theorem dL_currents_52 : decode cL_currents 52 = .ok (.iconst 3, 1) := by decide +kernel
theorem dL_currents_53 : decode cL_currents 53 = .ok (.iadd, 1) := by decide +kernel
theorem dL_currents_54 : decode cL_currents 54 = .ok (.iaload, 1) := by decide +kernel
theorem dL_currents_55 : decode cL_currents 55 = .ok (.i2l, 1) := by decide +kernel
theorem dL_currents_56 : decode cL_currents 56 = .ok (.iload 6, 2) := by decide +kernel
theorem dL_currents_58 : decode cL_currents 58 = .ok (.iconst 0, 1) := by decide +kernel
theorem dL_currents_59 : decode cL_currents 59 = .ok (.aload 4, 2) := by decide +kernel
theorem dL_currents_61 : decode cL_currents 61 = .ok (.invokestatic 41, 3) := by decide +kernel
theorem dL_currents_64 : decode cL_currents 64 = .ok (.iload 7, 2) := by decide +kernel
theorem dL_currents_66 : decode cL_currents 66 = .ok (.iconst 1, 1) := by decide +kernel
theorem dL_currents_67 : decode cL_currents 67 = .ok (.aload 4, 2) := by decide +kernel
theorem dL_currents_69 : decode cL_currents 69 = .ok (.invokestatic 41, 3) := by decide +kernel
theorem dL_currents_72 : decode cL_currents 72 = .ok (.lmul, 1) := by decide +kernel
theorem dL_currents_73 : decode cL_currents 73 = .ok (.iload 7, 2) := by decide +kernel
theorem dL_currents_75 : decode cL_currents 75 = .ok (.iconst 0, 1) := by decide +kernel
theorem dL_currents_76 : decode cL_currents 76 = .ok (.aload 4, 2) := by decide +kernel
theorem dL_currents_78 : decode cL_currents 78 = .ok (.invokestatic 41, 3) := by decide +kernel
theorem dL_currents_81 : decode cL_currents 81 = .ok (.iload 6, 2) := by decide +kernel
theorem dL_currents_83 : decode cL_currents 83 = .ok (.iconst 1, 1) := by decide +kernel
theorem dL_currents_84 : decode cL_currents 84 = .ok (.aload 4, 2) := by decide +kernel
theorem dL_currents_86 : decode cL_currents 86 = .ok (.invokestatic 41, 3) := by decide +kernel
theorem dL_currents_89 : decode cL_currents 89 = .ok (.lmul, 1) := by decide +kernel
theorem dL_currents_90 : decode cL_currents 90 = .ok (.lsub, 1) := by decide +kernel
theorem dL_currents_91 : decode cL_currents 91 = .ok (.lmul, 1) := by decide +kernel
theorem dL_currents_92 : decode cL_currents 92 = .ok (.goto 4, 3) := by decide +kernel
theorem dL_currents_95 : decode cL_currents 95 = .ok (.lconst 0, 1) := by decide +kernel
theorem dL_currents_96 : decode cL_currents 96 = .ok (.lstore 8, 2) := by decide +kernel
theorem dL_currents_98 : decode cL_currents 98 = .ok (.iload_n 1, 1) := by decide +kernel
theorem dL_currents_99 : decode cL_currents 99 = .ok (.ifCond .eq 23, 3) := by decide +kernel
theorem dL_currents_102 : decode cL_currents 102 = .ok (.iload 6, 2) := by decide +kernel
theorem dL_currents_104 : decode cL_currents 104 = .ok (.iconst 1, 1) := by decide +kernel
theorem dL_currents_105 : decode cL_currents 105 = .ok (.aload 4, 2) := by decide +kernel
theorem dL_currents_107 : decode cL_currents 107 = .ok (.invokestatic 41, 3) := by decide +kernel
theorem dL_currents_110 : decode cL_currents 110 = .ok (.iload 7, 2) := by decide +kernel
theorem dL_currents_112 : decode cL_currents 112 = .ok (.iconst 1, 1) := by decide +kernel
theorem dL_currents_113 : decode cL_currents 113 = .ok (.aload 4, 2) := by decide +kernel
theorem dL_currents_115 : decode cL_currents 115 = .ok (.invokestatic 41, 3) := by decide +kernel
theorem dL_currents_118 : decode cL_currents 118 = .ok (.lmul, 1) := by decide +kernel
theorem dL_currents_119 : decode cL_currents 119 = .ok (.goto 4, 3) := by decide +kernel
theorem dL_currents_122 : decode cL_currents 122 = .ok (.lconst 0, 1) := by decide +kernel
theorem dL_currents_123 : decode cL_currents 123 = .ok (.lstore 10, 2) := by decide +kernel
theorem dL_currents_125 : decode cL_currents 125 = .ok (.iload_n 1, 1) := by decide +kernel
theorem dL_currents_126 : decode cL_currents 126 = .ok (.ifCond .eq 13, 3) := by decide +kernel
theorem dL_currents_129 : decode cL_currents 129 = .ok (.lload 8, 2) := by decide +kernel
theorem dL_currents_131 : decode cL_currents 131 = .ok (.lload 10, 2) := by decide +kernel
theorem dL_currents_133 : decode cL_currents 133 = .ok (.invokestatic 37, 3) := by decide +kernel
theorem dL_currents_136 : decode cL_currents 136 = .ok (.goto 4, 3) := by decide +kernel
theorem dL_currents_139 : decode cL_currents 139 = .ok (.lconst 1, 1) := by decide +kernel
theorem dL_currents_140 : decode cL_currents 140 = .ok (.lstore 12, 2) := by decide +kernel
theorem dL_currents_142 : decode cL_currents 142 = .ok (.aload_n 0, 1) := by decide +kernel
theorem dL_currents_143 : decode cL_currents 143 = .ok (.iload 5, 2) := by decide +kernel
theorem dL_currents_145 : decode cL_currents 145 = .ok (.iconst 0, 1) := by decide +kernel
theorem dL_currents_146 : decode cL_currents 146 = .ok (.invokevirtual 98, 3) := by decide +kernel
theorem dL_currents_149 : decode cL_currents 149 = .ok (.lload 8, 2) := by decide +kernel
theorem dL_currents_151 : decode cL_currents 151 = .ok (.lload 12, 2) := by decide +kernel
theorem dL_currents_153 : decode cL_currents 153 = .ok (.ldiv, 1) := by decide +kernel
theorem dL_currents_154 : decode cL_currents 154 = .ok (.lcmp, 1) := by decide +kernel
theorem dL_currents_155 : decode cL_currents 155 = .ok (.ifCond .ne 19, 3) := by decide +kernel
theorem dL_currents_158 : decode cL_currents 158 = .ok (.aload_n 0, 1) := by decide +kernel
theorem dL_currents_159 : decode cL_currents 159 = .ok (.iload 5, 2) := by decide +kernel
theorem dL_currents_161 : decode cL_currents 161 = .ok (.iconst 1, 1) := by decide +kernel
theorem dL_currents_162 : decode cL_currents 162 = .ok (.invokevirtual 98, 3) := by decide +kernel
theorem dL_currents_165 : decode cL_currents 165 = .ok (.lload 10, 2) := by decide +kernel
theorem dL_currents_167 : decode cL_currents 167 = .ok (.lload 12, 2) := by decide +kernel
theorem dL_currents_169 : decode cL_currents 169 = .ok (.ldiv, 1) := by decide +kernel
theorem dL_currents_170 : decode cL_currents 170 = .ok (.lcmp, 1) := by decide +kernel
theorem dL_currents_171 : decode cL_currents 171 = .ok (.ifCond .eq 5, 3) := by decide +kernel
theorem dL_currents_174 : decode cL_currents 174 = .ok (.iconst 0, 1) := by decide +kernel
theorem dL_currents_175 : decode cL_currents 175 = .ok (.ireturn, 1) := by decide +kernel
theorem dL_currents_176 : decode cL_currents 176 = .ok (.iinc 5 1, 3) := by decide +kernel
theorem dL_currents_179 : decode cL_currents 179 = .ok (.goto (-176), 3) := by decide +kernel
theorem dL_currents_182 : decode cL_currents 182 = .ok (.iconst 1, 1) := by decide +kernel
theorem dL_currents_183 : decode cL_currents 183 = .ok (.ireturn, 1) := by decide +kernel
theorem dL_mean_0 : decode cL_mean 0 = .ok (.iload_n 1, 1) := by decide +kernel
theorem dL_mean_1 : decode cL_mean 1 = .ok (.ifCond .eq 7, 3) := by decide +kernel
theorem dL_mean_4 : decode cL_mean 4 = .ok (.iload_n 2, 1) := by decide +kernel
theorem dL_mean_5 : decode cL_mean 5 = .ok (.ifCond .ne 18, 3) := by decide +kernel
theorem dL_mean_8 : decode cL_mean 8 = .ok (.aload_n 0, 1) := by decide +kernel
theorem dL_mean_9 : decode cL_mean 9 = .ok (.invokevirtual 101, 3) := by decide +kernel
theorem dL_mean_12 : decode cL_mean 12 = .ok (.dconst 0, 1) := by decide +kernel
theorem dL_mean_13 : decode cL_mean 13 = .ok (.dcmp .l, 1) := by decide +kernel
theorem dL_mean_14 : decode cL_mean 14 = .ok (.ifCond .ne 7, 3) := by decide +kernel
theorem dL_mean_17 : decode cL_mean 17 = .ok (.iconst 1, 1) := by decide +kernel
theorem dL_mean_18 : decode cL_mean 18 = .ok (.goto 4, 3) := by decide +kernel
theorem dL_mean_21 : decode cL_mean 21 = .ok (.iconst 0, 1) := by decide +kernel
theorem dL_mean_22 : decode cL_mean 22 = .ok (.ireturn, 1) := by decide +kernel
theorem dL_mean_23 : decode cL_mean 23 = .ok (.aload_n 0, 1) := by decide +kernel
theorem dL_mean_24 : decode cL_mean 24 = .ok (.invokevirtual 101, 3) := by decide +kernel
theorem dL_mean_27 : decode cL_mean 27 = .ok (.dconst 1, 1) := by decide +kernel
theorem dL_mean_28 : decode cL_mean 28 = .ok (.iconst 1, 1) := by decide +kernel
theorem dL_mean_29 : decode cL_mean 29 = .ok (.iconst 0, 1) := by decide +kernel
theorem dL_mean_30 : decode cL_mean 30 = .ok (.aload 5, 2) := by decide +kernel
theorem dL_mean_32 : decode cL_mean 32 = .ok (.invokestatic 41, 3) := by decide +kernel
theorem dL_mean_35 : decode cL_mean 35 = .ok (.l2d, 1) := by decide +kernel
theorem dL_mean_36 : decode cL_mean 36 = .ok (.dmul, 1) := by decide +kernel
theorem dL_mean_37 : decode cL_mean 37 = .ok (.iconst 1, 1) := by decide +kernel
theorem dL_mean_38 : decode cL_mean 38 = .ok (.iconst 1, 1) := by decide +kernel
theorem dL_mean_39 : decode cL_mean 39 = .ok (.aload 5, 2) := by decide +kernel
theorem dL_mean_41 : decode cL_mean 41 = .ok (.invokestatic 41, 3) := by decide +kernel
theorem dL_mean_44 : decode cL_mean 44 = .ok (.l2d, 1) := by decide +kernel
theorem dL_mean_45 : decode cL_mean 45 = .ok (.ddiv, 1) := by decide +kernel
theorem dL_mean_46 : decode cL_mean 46 = .ok (.dconst 1, 1) := by decide +kernel
theorem dL_mean_47 : decode cL_mean 47 = .ok (.iconst 2, 1) := by decide +kernel
theorem dL_mean_48 : decode cL_mean 48 = .ok (.iconst 0, 1) := by decide +kernel
theorem dL_mean_49 : decode cL_mean 49 = .ok (.aload 5, 2) := by decide +kernel
theorem dL_mean_51 : decode cL_mean 51 = .ok (.invokestatic 41, 3) := by decide +kernel
theorem dL_mean_54 : decode cL_mean 54 = .ok (.l2d, 1) := by decide +kernel
theorem dL_mean_55 : decode cL_mean 55 = .ok (.dmul, 1) := by decide +kernel
theorem dL_mean_56 : decode cL_mean 56 = .ok (.iconst 2, 1) := by decide +kernel
theorem dL_mean_57 : decode cL_mean 57 = .ok (.iconst 1, 1) := by decide +kernel
theorem dL_mean_58 : decode cL_mean 58 = .ok (.aload 5, 2) := by decide +kernel
theorem dL_mean_60 : decode cL_mean 60 = .ok (.invokestatic 41, 3) := by decide +kernel
theorem dL_mean_63 : decode cL_mean 63 = .ok (.l2d, 1) := by decide +kernel
theorem dL_mean_64 : decode cL_mean 64 = .ok (.ddiv, 1) := by decide +kernel
theorem dL_mean_65 : decode cL_mean 65 = .ok (.dadd, 1) := by decide +kernel
theorem dL_mean_66 : decode cL_mean 66 = .ok (.dconst 1, 1) := by decide +kernel
theorem dL_mean_67 : decode cL_mean 67 = .ok (.iconst 3, 1) := by decide +kernel
theorem dL_mean_68 : decode cL_mean 68 = .ok (.iconst 0, 1) := by decide +kernel
theorem dL_mean_69 : decode cL_mean 69 = .ok (.aload 5, 2) := by decide +kernel
theorem dL_mean_71 : decode cL_mean 71 = .ok (.invokestatic 41, 3) := by decide +kernel
theorem dL_mean_74 : decode cL_mean 74 = .ok (.l2d, 1) := by decide +kernel
theorem dL_mean_75 : decode cL_mean 75 = .ok (.dmul, 1) := by decide +kernel
theorem dL_mean_76 : decode cL_mean 76 = .ok (.iconst 3, 1) := by decide +kernel
theorem dL_mean_77 : decode cL_mean 77 = .ok (.iconst 1, 1) := by decide +kernel
theorem dL_mean_78 : decode cL_mean 78 = .ok (.aload 5, 2) := by decide +kernel
theorem dL_mean_80 : decode cL_mean 80 = .ok (.invokestatic 41, 3) := by decide +kernel
theorem dL_mean_83 : decode cL_mean 83 = .ok (.l2d, 1) := by decide +kernel
theorem dL_mean_84 : decode cL_mean 84 = .ok (.ddiv, 1) := by decide +kernel
theorem dL_mean_85 : decode cL_mean 85 = .ok (.dadd, 1) := by decide +kernel
theorem dL_mean_86 : decode cL_mean 86 = .ok (.dconst 1, 1) := by decide +kernel
theorem dL_mean_87 : decode cL_mean 87 = .ok (.iconst 4, 1) := by decide +kernel
theorem dL_mean_88 : decode cL_mean 88 = .ok (.iconst 0, 1) := by decide +kernel
theorem dL_mean_89 : decode cL_mean 89 = .ok (.aload 5, 2) := by decide +kernel
theorem dL_mean_91 : decode cL_mean 91 = .ok (.invokestatic 41, 3) := by decide +kernel
theorem dL_mean_94 : decode cL_mean 94 = .ok (.l2d, 1) := by decide +kernel
theorem dL_mean_95 : decode cL_mean 95 = .ok (.dmul, 1) := by decide +kernel
theorem dL_mean_96 : decode cL_mean 96 = .ok (.iconst 4, 1) := by decide +kernel
theorem dL_mean_97 : decode cL_mean 97 = .ok (.iconst 1, 1) := by decide +kernel
theorem dL_mean_98 : decode cL_mean 98 = .ok (.aload 5, 2) := by decide +kernel
theorem dL_mean_100 : decode cL_mean 100 = .ok (.invokestatic 41, 3) := by decide +kernel
theorem dL_mean_103 : decode cL_mean 103 = .ok (.l2d, 1) := by decide +kernel
theorem dL_mean_104 : decode cL_mean 104 = .ok (.ddiv, 1) := by decide +kernel
theorem dL_mean_105 : decode cL_mean 105 = .ok (.dadd, 1) := by decide +kernel
theorem dL_mean_106 : decode cL_mean 106 = .ok (.dconst 1, 1) := by decide +kernel
theorem dL_mean_107 : decode cL_mean 107 = .ok (.iconst 5, 1) := by decide +kernel
theorem dL_mean_108 : decode cL_mean 108 = .ok (.iconst 0, 1) := by decide +kernel
theorem dL_mean_109 : decode cL_mean 109 = .ok (.aload 5, 2) := by decide +kernel
theorem dL_mean_111 : decode cL_mean 111 = .ok (.invokestatic 41, 3) := by decide +kernel
theorem dL_mean_114 : decode cL_mean 114 = .ok (.l2d, 1) := by decide +kernel
theorem dL_mean_115 : decode cL_mean 115 = .ok (.dmul, 1) := by decide +kernel
theorem dL_mean_116 : decode cL_mean 116 = .ok (.iconst 5, 1) := by decide +kernel
theorem dL_mean_117 : decode cL_mean 117 = .ok (.iconst 1, 1) := by decide +kernel
theorem dL_mean_118 : decode cL_mean 118 = .ok (.aload 5, 2) := by decide +kernel
theorem dL_mean_120 : decode cL_mean 120 = .ok (.invokestatic 41, 3) := by decide +kernel
theorem dL_mean_123 : decode cL_mean 123 = .ok (.l2d, 1) := by decide +kernel
theorem dL_mean_124 : decode cL_mean 124 = .ok (.ddiv, 1) := by decide +kernel
theorem dL_mean_125 : decode cL_mean 125 = .ok (.dadd, 1) := by decide +kernel
theorem dL_mean_126 : decode cL_mean 126 = .ok (.dconst 1, 1) := by decide +kernel
theorem dL_mean_127 : decode cL_mean 127 = .ok (.bipush 6, 2) := by decide +kernel
theorem dL_mean_129 : decode cL_mean 129 = .ok (.iconst 0, 1) := by decide +kernel
theorem dL_mean_130 : decode cL_mean 130 = .ok (.aload 5, 2) := by decide +kernel
theorem dL_mean_132 : decode cL_mean 132 = .ok (.invokestatic 41, 3) := by decide +kernel
theorem dL_mean_135 : decode cL_mean 135 = .ok (.l2d, 1) := by decide +kernel
theorem dL_mean_136 : decode cL_mean 136 = .ok (.dmul, 1) := by decide +kernel
theorem dL_mean_137 : decode cL_mean 137 = .ok (.bipush 6, 2) := by decide +kernel
theorem dL_mean_139 : decode cL_mean 139 = .ok (.iconst 1, 1) := by decide +kernel
theorem dL_mean_140 : decode cL_mean 140 = .ok (.aload 5, 2) := by decide +kernel
theorem dL_mean_142 : decode cL_mean 142 = .ok (.invokestatic 41, 3) := by decide +kernel
theorem dL_mean_145 : decode cL_mean 145 = .ok (.l2d, 1) := by decide +kernel
theorem dL_mean_146 : decode cL_mean 146 = .ok (.ddiv, 1) := by decide +kernel
theorem dL_mean_147 : decode cL_mean 147 = .ok (.dadd, 1) := by decide +kernel
theorem dL_mean_148 : decode cL_mean 148 = .ok (.iload_n 2, 1) := by decide +kernel
theorem dL_mean_149 : decode cL_mean 149 = .ok (.i2d, 1) := by decide +kernel
theorem dL_mean_150 : decode cL_mean 150 = .ok (.ddiv, 1) := by decide +kernel
theorem dL_mean_151 : decode cL_mean 151 = .ok (.dcmp .l, 1) := by decide +kernel
theorem dL_mean_152 : decode cL_mean 152 = .ok (.ifCond .ne 7, 3) := by decide +kernel
theorem dL_mean_155 : decode cL_mean 155 = .ok (.iconst 1, 1) := by decide +kernel
theorem dL_mean_156 : decode cL_mean 156 = .ok (.goto 4, 3) := by decide +kernel
theorem dL_mean_159 : decode cL_mean 159 = .ok (.iconst 0, 1) := by decide +kernel
theorem dL_mean_160 : decode cL_mean 160 = .ok (.ireturn, 1) := by decide +kernel
theorem dL_ahead_0 : decode cL_ahead 0 = .ok (.bipush 56, 2) := by decide +kernel
theorem dL_ahead_2 : decode cL_ahead 2 = .ok (.newarray .long, 2) := by decide +kernel
theorem dL_ahead_4 : decode cL_ahead 4 = .ok (.astore 4, 2) := by decide +kernel
theorem dL_ahead_6 : decode cL_ahead 6 = .ok (.bipush 56, 2) := by decide +kernel
theorem dL_ahead_8 : decode cL_ahead 8 = .ok (.newarray .long, 2) := by decide +kernel
theorem dL_ahead_10 : decode cL_ahead 10 = .ok (.astore 5, 2) := by decide +kernel
theorem dL_ahead_12 : decode cL_ahead 12 = .ok (.iconst 4, 1) := by decide +kernel
theorem dL_ahead_13 : decode cL_ahead 13 = .ok (.newarray .int, 2) := by decide +kernel
theorem dL_ahead_15 : decode cL_ahead 15 = .ok (.astore 6, 2) := by decide +kernel
theorem dL_ahead_17 : decode cL_ahead 17 = .ok (.bipush 48, 2) := by decide +kernel
theorem dL_ahead_19 : decode cL_ahead 19 = .ok (.newarray .int, 2) := by decide +kernel
theorem dL_ahead_21 : decode cL_ahead 21 = .ok (.astore 7, 2) := by decide +kernel
theorem dL_ahead_23 : decode cL_ahead 23 = .ok (.aload_n 2, 1) := by decide +kernel
theorem dL_ahead_24 : decode cL_ahead 24 = .ok (.iconst 0, 1) := by decide +kernel
theorem dL_ahead_25 : decode cL_ahead 25 = .ok (.iaload, 1) := by decide +kernel
theorem dL_ahead_26 : decode cL_ahead 26 = .ok (.ifCond .ne 7, 3) := by decide +kernel
theorem dL_ahead_29 : decode cL_ahead 29 = .ok (.iconst (-1), 1) := by decide +kernel
theorem dL_ahead_30 : decode cL_ahead 30 = .ok (.goto 10, 3) := by decide +kernel
theorem dL_ahead_33 : decode cL_ahead 33 = .ok (.iload_n 1, 1) := by decide +kernel
theorem dL_ahead_34 : decode cL_ahead 34 = .ok (.aload_n 2, 1) := by decide +kernel
theorem dL_ahead_35 : decode cL_ahead 35 = .ok (.iconst 0, 1) := by decide +kernel
theorem dL_ahead_36 : decode cL_ahead 36 = .ok (.iaload, 1) := by decide +kernel
theorem dL_ahead_37 : decode cL_ahead 37 = .ok (.invokestatic 71, 3) := by decide +kernel
theorem dL_ahead_40 : decode cL_ahead 40 = .ok (.istore 8, 2) := by decide +kernel
theorem dL_ahead_42 : decode cL_ahead 42 = .ok (.iload 8, 2) := by decide +kernel
theorem dL_ahead_44 : decode cL_ahead 44 = .ok (.ifCond .lt 13, 3) := by decide +kernel
theorem dL_ahead_47 : decode cL_ahead 47 = .ok (.iload 8, 2) := by decide +kernel
theorem dL_ahead_49 : decode cL_ahead 49 = .ok (.aload_n 3, 1) := by decide +kernel
theorem dL_ahead_50 : decode cL_ahead 50 = .ok (.invokestatic 8, 3) := by decide +kernel
theorem dL_ahead_53 : decode cL_ahead 53 = .ok (.iconst 2, 1) := by decide +kernel
theorem dL_ahead_54 : decode cL_ahead 54 = .ok (.if_icmp .ne 5, 3) := by decide +kernel
theorem dL_ahead_57 : decode cL_ahead 57 = .ok (.iconst 1, 1) := by decide +kernel
theorem dL_ahead_58 : decode cL_ahead 58 = .ok (.ireturn, 1) := by decide +kernel
theorem dL_ahead_59 : decode cL_ahead 59 = .ok (.iconst 0, 1) := by decide +kernel
theorem dL_ahead_60 : decode cL_ahead 60 = .ok (.istore 9, 2) := by decide +kernel
theorem dL_ahead_62 : decode cL_ahead 62 = .ok (.iload 9, 2) := by decide +kernel
theorem dL_ahead_64 : decode cL_ahead 64 = .ok (.iconst 4, 1) := by decide +kernel
theorem dL_ahead_65 : decode cL_ahead 65 = .ok (.if_icmp .ge 18, 3) := by decide +kernel
theorem dL_ahead_68 : decode cL_ahead 68 = .ok (.aload 6, 2) := by decide +kernel
theorem dL_ahead_70 : decode cL_ahead 70 = .ok (.iload 9, 2) := by decide +kernel
theorem dL_ahead_72 : decode cL_ahead 72 = .ok (.aload_n 2, 1) := by decide +kernel
theorem dL_ahead_73 : decode cL_ahead 73 = .ok (.iload 9, 2) := by decide +kernel
theorem dL_ahead_75 : decode cL_ahead 75 = .ok (.iaload, 1) := by decide +kernel
theorem dL_ahead_76 : decode cL_ahead 76 = .ok (.iastore, 1) := by decide +kernel
theorem dL_ahead_77 : decode cL_ahead 77 = .ok (.iinc 9 1, 3) := by decide +kernel
theorem dL_ahead_80 : decode cL_ahead 80 = .ok (.goto (-18), 3) := by decide +kernel
theorem dL_ahead_83 : decode cL_ahead 83 = .ok (.iconst 0, 1) := by decide +kernel
theorem dL_ahead_84 : decode cL_ahead 84 = .ok (.istore 9, 2) := by decide +kernel
theorem dL_ahead_86 : decode cL_ahead 86 = .ok (.iload 9, 2) := by decide +kernel
theorem dL_ahead_88 : decode cL_ahead 88 = .ok (.bipush 48, 2) := by decide +kernel
theorem dL_ahead_90 : decode cL_ahead 90 = .ok (.if_icmp .ge 18, 3) := by decide +kernel
theorem dL_ahead_93 : decode cL_ahead 93 = .ok (.aload 7, 2) := by decide +kernel
theorem dL_ahead_95 : decode cL_ahead 95 = .ok (.iload 9, 2) := by decide +kernel
theorem dL_ahead_97 : decode cL_ahead 97 = .ok (.aload_n 3, 1) := by decide +kernel
theorem dL_ahead_98 : decode cL_ahead 98 = .ok (.iload 9, 2) := by decide +kernel
theorem dL_ahead_100 : decode cL_ahead 100 = .ok (.iaload, 1) := by decide +kernel
theorem dL_ahead_101 : decode cL_ahead 101 = .ok (.iastore, 1) := by decide +kernel
theorem dL_ahead_102 : decode cL_ahead 102 = .ok (.iinc 9 1, 3) := by decide +kernel
theorem dL_ahead_105 : decode cL_ahead 105 = .ok (.goto (-19), 3) := by decide +kernel
theorem dL_ahead_108 : decode cL_ahead 108 = .ok (.aload 7, 2) := by decide +kernel
theorem dL_ahead_110 : decode cL_ahead 110 = .ok (.iconst 4, 1) := by decide +kernel
theorem dL_ahead_111 : decode cL_ahead 111 = .ok (.iload 8, 2) := by decide +kernel
theorem dL_ahead_113 : decode cL_ahead 113 = .ok (.imul, 1) := by decide +kernel
theorem dL_ahead_114 : decode cL_ahead 114 = .ok (.iconst 3, 1) := by decide +kernel
theorem dL_ahead_115 : decode cL_ahead 115 = .ok (.iadd, 1) := by decide +kernel
theorem dL_ahead_116 : decode cL_ahead 116 = .ok (.iload 8, 2) := by decide +kernel
theorem dL_ahead_118 : decode cL_ahead 118 = .ok (.aload_n 3, 1) := by decide +kernel
theorem dL_ahead_119 : decode cL_ahead 119 = .ok (.invokestatic 8, 3) := by decide +kernel
theorem dL_ahead_122 : decode cL_ahead 122 = .ok (.ifCond .ne 15, 3) := by decide +kernel
theorem dL_ahead_125 : decode cL_ahead 125 = .ok (.iconst 1, 1) := by decide +kernel
theorem dL_ahead_126 : decode cL_ahead 126 = .ok (.iload_n 1, 1) := by decide +kernel
theorem dL_ahead_127 : decode cL_ahead 127 = .ok (.iconst 4, 1) := by decide +kernel
theorem dL_ahead_128 : decode cL_ahead 128 = .ok (.ishr, 1) := by decide +kernel
theorem dL_ahead_129 : decode cL_ahead 129 = .ok (.iconst 4, 1) := by decide +kernel
theorem dL_ahead_130 : decode cL_ahead 130 = .ok (.invokestatic 71, 3) := by decide +kernel
theorem dL_ahead_133 : decode cL_ahead 133 = .ok (.iadd, 1) := by decide +kernel
theorem dL_ahead_134 : decode cL_ahead 134 = .ok (.goto 16, 3) := by decide +kernel
theorem dL_ahead_137 : decode cL_ahead 137 = .ok (.iload_n 1, 1) := by decide +kernel
theorem dL_ahead_138 : decode cL_ahead 138 = .ok (.iconst 4, 1) := by decide +kernel
theorem dL_ahead_139 : decode cL_ahead 139 = .ok (.ishr, 1) := by decide +kernel
theorem dL_ahead_140 : decode cL_ahead 140 = .ok (.sipush 401, 3) := by decide +kernel
theorem dL_ahead_143 : decode cL_ahead 143 = .ok (.invokestatic 71, 3) := by decide +kernel
theorem dL_ahead_146 : decode cL_ahead 146 = .ok (.sipush 200, 3) := by decide +kernel
theorem dL_ahead_149 : decode cL_ahead 149 = .ok (.isub, 1) := by decide +kernel
theorem dL_ahead_150 : decode cL_ahead 150 = .ok (.iastore, 1) := by decide +kernel
theorem dL_ahead_151 : decode cL_ahead 151 = .ok (.aload 6, 2) := by decide +kernel
theorem dL_ahead_153 : decode cL_ahead 153 = .ok (.aload 7, 2) := by decide +kernel
theorem dL_ahead_155 : decode cL_ahead 155 = .ok (.aload 4, 2) := by decide +kernel
theorem dL_ahead_157 : decode cL_ahead 157 = .ok (.aload 5, 2) := by decide +kernel
theorem dL_ahead_159 : decode cL_ahead 159 = .ok (.invokestatic 105, 3) := by decide +kernel
theorem dL_ahead_162 : decode cL_ahead 162 = .ok (.pop, 1) := by decide +kernel
theorem dL_ahead_163 : decode cL_ahead 163 = .ok (.aload_n 0, 1) := by decide +kernel
theorem dL_ahead_164 : decode cL_ahead 164 = .ok (.iload 8, 2) := by decide +kernel
theorem dL_ahead_166 : decode cL_ahead 166 = .ok (.aload 7, 2) := by decide +kernel
theorem dL_ahead_168 : decode cL_ahead 168 = .ok (.iconst 4, 1) := by decide +kernel
theorem dL_ahead_169 : decode cL_ahead 169 = .ok (.iload 8, 2) := by decide +kernel
theorem dL_ahead_171 : decode cL_ahead 171 = .ok (.imul, 1) := by decide +kernel
theorem dL_ahead_172 : decode cL_ahead 172 = .ok (.iconst 3, 1) := by decide +kernel
theorem dL_ahead_173 : decode cL_ahead 173 = .ok (.iadd, 1) := by decide +kernel
theorem dL_ahead_174 : decode cL_ahead 174 = .ok (.iaload, 1) := by decide +kernel
theorem dL_ahead_175 : decode cL_ahead 175 = .ok (.invokevirtual 109, 3) := by decide +kernel
theorem dL_ahead_178 : decode cL_ahead 178 = .ok (.aload 6, 2) := by decide +kernel
theorem dL_ahead_180 : decode cL_ahead 180 = .ok (.iconst 3, 1) := by decide +kernel
theorem dL_ahead_181 : decode cL_ahead 181 = .ok (.iaload, 1) := by decide +kernel
theorem dL_ahead_182 : decode cL_ahead 182 = .ok (.iconst 1, 1) := by decide +kernel
theorem dL_ahead_183 : decode cL_ahead 183 = .ok (.if_icmp .ne 10, 3) := by decide +kernel
theorem dL_ahead_186 : decode cL_ahead 186 = .ok (.aload 6, 2) := by decide +kernel
theorem dL_ahead_188 : decode cL_ahead 188 = .ok (.iconst 2, 1) := by decide +kernel
theorem dL_ahead_189 : decode cL_ahead 189 = .ok (.iaload, 1) := by decide +kernel
theorem dL_ahead_190 : decode cL_ahead 190 = .ok (.goto 4, 3) := by decide +kernel
theorem dL_ahead_193 : decode cL_ahead 193 = .ok (.iconst (-1), 1) := by decide +kernel
theorem dL_ahead_194 : decode cL_ahead 194 = .ok (.if_icmp .eq 5, 3) := by decide +kernel
theorem dL_ahead_197 : decode cL_ahead 197 = .ok (.iconst 0, 1) := by decide +kernel
theorem dL_ahead_198 : decode cL_ahead 198 = .ok (.ireturn, 1) := by decide +kernel
theorem dL_ahead_199 : decode cL_ahead 199 = .ok (.iload 8, 2) := by decide +kernel
theorem dL_ahead_201 : decode cL_ahead 201 = .ok (.aload_n 3, 1) := by decide +kernel
theorem dL_ahead_202 : decode cL_ahead 202 = .ok (.invokestatic 8, 3) := by decide +kernel
theorem dL_ahead_205 : decode cL_ahead 205 = .ok (.ifCond .ne 5, 3) := by decide +kernel
theorem dL_ahead_208 : decode cL_ahead 208 = .ok (.iconst 1, 1) := by decide +kernel
theorem dL_ahead_209 : decode cL_ahead 209 = .ok (.ireturn, 1) := by decide +kernel
theorem dL_ahead_210 : decode cL_ahead 210 = .ok (.iload_n 1, 1) := by decide +kernel
theorem dL_ahead_211 : decode cL_ahead 211 = .ok (.iconst 3, 1) := by decide +kernel
theorem dL_ahead_212 : decode cL_ahead 212 = .ok (.ishr, 1) := by decide +kernel
theorem dL_ahead_213 : decode cL_ahead 213 = .ok (.iconst 2, 1) := by decide +kernel
theorem dL_ahead_214 : decode cL_ahead 214 = .ok (.invokestatic 71, 3) := by decide +kernel
theorem dL_ahead_217 : decode cL_ahead 217 = .ok (.ifCond .ne 7, 3) := by decide +kernel
theorem dL_ahead_220 : decode cL_ahead 220 = .ok (.iconst 1, 1) := by decide +kernel
theorem dL_ahead_221 : decode cL_ahead 221 = .ok (.goto 4, 3) := by decide +kernel
theorem dL_ahead_224 : decode cL_ahead 224 = .ok (.iconst (-1), 1) := by decide +kernel
theorem dL_ahead_225 : decode cL_ahead 225 = .ok (.istore 9, 2) := by decide +kernel
theorem dL_ahead_227 : decode cL_ahead 227 = .ok (.iconst (-1), 1) := by decide +kernel
theorem dL_ahead_228 : decode cL_ahead 228 = .ok (.istore 10, 2) := by decide +kernel
theorem dL_ahead_230 : decode cL_ahead 230 = .ok (.iconst 0, 1) := by decide +kernel
theorem dL_ahead_231 : decode cL_ahead 231 = .ok (.istore 11, 2) := by decide +kernel
theorem dL_ahead_233 : decode cL_ahead 233 = .ok (.iload 11, 2) := by decide +kernel
theorem dL_ahead_235 : decode cL_ahead 235 = .ok (.iconst 4, 1) := by decide +kernel
theorem dL_ahead_236 : decode cL_ahead 236 = .ok (.if_icmp .ge 18, 3) := by decide +kernel
theorem dL_ahead_239 : decode cL_ahead 239 = .ok (.aload 6, 2) := by decide +kernel
theorem dL_ahead_241 : decode cL_ahead 241 = .ok (.iload 11, 2) := by decide +kernel
theorem dL_ahead_243 : decode cL_ahead 243 = .ok (.aload_n 2, 1) := by decide +kernel
theorem dL_ahead_244 : decode cL_ahead 244 = .ok (.iload 11, 2) := by decide +kernel
theorem dL_ahead_246 : decode cL_ahead 246 = .ok (.iaload, 1) := by decide +kernel
theorem dL_ahead_247 : decode cL_ahead 247 = .ok (.iastore, 1) := by decide +kernel
theorem dL_ahead_248 : decode cL_ahead 248 = .ok (.iinc 11 1, 3) := by decide +kernel
theorem dL_ahead_251 : decode cL_ahead 251 = .ok (.goto (-18), 3) := by decide +kernel
theorem dL_ahead_254 : decode cL_ahead 254 = .ok (.aload 7, 2) := by decide +kernel
theorem dL_ahead_256 : decode cL_ahead 256 = .ok (.iconst 4, 1) := by decide +kernel
theorem dL_ahead_257 : decode cL_ahead 257 = .ok (.iload 8, 2) := by decide +kernel
theorem dL_ahead_259 : decode cL_ahead 259 = .ok (.imul, 1) := by decide +kernel
theorem dL_ahead_260 : decode cL_ahead 260 = .ok (.iconst 3, 1) := by decide +kernel
theorem dL_ahead_261 : decode cL_ahead 261 = .ok (.iadd, 1) := by decide +kernel
theorem dL_ahead_262 : decode cL_ahead 262 = .ok (.aload_n 3, 1) := by decide +kernel
theorem dL_ahead_263 : decode cL_ahead 263 = .ok (.iconst 4, 1) := by decide +kernel
theorem dL_ahead_264 : decode cL_ahead 264 = .ok (.iload 8, 2) := by decide +kernel
theorem dL_ahead_266 : decode cL_ahead 266 = .ok (.imul, 1) := by decide +kernel
theorem dL_ahead_267 : decode cL_ahead 267 = .ok (.iconst 3, 1) := by decide +kernel
theorem dL_ahead_268 : decode cL_ahead 268 = .ok (.iadd, 1) := by decide +kernel
theorem dL_ahead_269 : decode cL_ahead 269 = .ok (.iaload, 1) := by decide +kernel
theorem dL_ahead_270 : decode cL_ahead 270 = .ok (.iastore, 1) := by decide +kernel
theorem dL_ahead_271 : decode cL_ahead 271 = .ok (.iload 10, 2) := by decide +kernel
theorem dL_ahead_273 : decode cL_ahead 273 = .ok (.ifCond .ge 86, 3) := by decide +kernel
theorem dL_ahead_276 : decode cL_ahead 276 = .ok (.aload 7, 2) := by decide +kernel
theorem dL_ahead_278 : decode cL_ahead 278 = .ok (.iconst 4, 1) := by decide +kernel
theorem dL_ahead_279 : decode cL_ahead 279 = .ok (.iload 8, 2) := by decide +kernel
theorem dL_ahead_281 : decode cL_ahead 281 = .ok (.imul, 1) := by decide +kernel
theorem dL_ahead_282 : decode cL_ahead 282 = .ok (.iconst 3, 1) := by decide +kernel
theorem dL_ahead_283 : decode cL_ahead 283 = .ok (.iadd, 1) := by decide +kernel
theorem dL_ahead_284 : decode cL_ahead 284 = .ok (.iaload, 1) := by decide +kernel
theorem dL_ahead_285 : decode cL_ahead 285 = .ok (.iload 9, 2) := by decide +kernel
theorem dL_ahead_287 : decode cL_ahead 287 = .ok (.iadd, 1) := by decide +kernel
theorem dL_ahead_288 : decode cL_ahead 288 = .ok (.sipush 200, 3) := by decide +kernel
theorem dL_ahead_291 : decode cL_ahead 291 = .ok (.if_icmp .gt 68, 3) := by decide +kernel
theorem dL_ahead_294 : decode cL_ahead 294 = .ok (.aload 7, 2) := by decide +kernel
theorem dL_ahead_296 : decode cL_ahead 296 = .ok (.iconst 4, 1) := by decide +kernel
theorem dL_ahead_297 : decode cL_ahead 297 = .ok (.iload 8, 2) := by decide +kernel
theorem dL_ahead_299 : decode cL_ahead 299 = .ok (.imul, 1) := by decide +kernel
theorem dL_ahead_300 : decode cL_ahead 300 = .ok (.iconst 3, 1) := by decide +kernel
theorem dL_ahead_301 : decode cL_ahead 301 = .ok (.iadd, 1) := by decide +kernel
theorem dL_ahead_302 : decode cL_ahead 302 = .ok (.iaload, 1) := by decide +kernel
theorem dL_ahead_303 : decode cL_ahead 303 = .ok (.iload 9, 2) := by decide +kernel
theorem dL_ahead_305 : decode cL_ahead 305 = .ok (.iadd, 1) := by decide +kernel
theorem dL_ahead_306 : decode cL_ahead 306 = .ok (.sipush (-200), 3) := by decide +kernel
theorem dL_ahead_309 : decode cL_ahead 309 = .ok (.if_icmp .lt 50, 3) := by decide +kernel
theorem dL_ahead_312 : decode cL_ahead 312 = .ok (.aload 7, 2) := by decide +kernel
theorem dL_ahead_314 : decode cL_ahead 314 = .ok (.iconst 4, 1) := by decide +kernel
theorem dL_ahead_315 : decode cL_ahead 315 = .ok (.iload 8, 2) := by decide +kernel
theorem dL_ahead_317 : decode cL_ahead 317 = .ok (.imul, 1) := by decide +kernel
theorem dL_ahead_318 : decode cL_ahead 318 = .ok (.iconst 3, 1) := by decide +kernel
theorem dL_ahead_319 : decode cL_ahead 319 = .ok (.iadd, 1) := by decide +kernel
theorem dL_ahead_320 : decode cL_ahead 320 = .ok (.dup2, 1) := by decide +kernel
theorem dL_ahead_321 : decode cL_ahead 321 = .ok (.iaload, 1) := by decide +kernel
theorem dL_ahead_322 : decode cL_ahead 322 = .ok (.iload 9, 2) := by decide +kernel
theorem dL_ahead_324 : decode cL_ahead 324 = .ok (.iadd, 1) := by decide +kernel
theorem dL_ahead_325 : decode cL_ahead 325 = .ok (.iastore, 1) := by decide +kernel
theorem dL_ahead_326 : decode cL_ahead 326 = .ok (.aload 6, 2) := by decide +kernel
theorem dL_ahead_328 : decode cL_ahead 328 = .ok (.aload 7, 2) := by decide +kernel
theorem dL_ahead_330 : decode cL_ahead 330 = .ok (.aload 4, 2) := by decide +kernel
theorem dL_ahead_332 : decode cL_ahead 332 = .ok (.aload 5, 2) := by decide +kernel
theorem dL_ahead_334 : decode cL_ahead 334 = .ok (.invokestatic 105, 3) := by decide +kernel
theorem dL_ahead_337 : decode cL_ahead 337 = .ok (.iconst 1, 1) := by decide +kernel
theorem dL_ahead_338 : decode cL_ahead 338 = .ok (.if_icmp .ne (-67), 3) := by decide +kernel
theorem dL_ahead_341 : decode cL_ahead 341 = .ok (.aload 7, 2) := by decide +kernel
theorem dL_ahead_343 : decode cL_ahead 343 = .ok (.iconst 4, 1) := by decide +kernel
theorem dL_ahead_344 : decode cL_ahead 344 = .ok (.iload 8, 2) := by decide +kernel
theorem dL_ahead_346 : decode cL_ahead 346 = .ok (.imul, 1) := by decide +kernel
theorem dL_ahead_347 : decode cL_ahead 347 = .ok (.iconst 3, 1) := by decide +kernel
theorem dL_ahead_348 : decode cL_ahead 348 = .ok (.iadd, 1) := by decide +kernel
theorem dL_ahead_349 : decode cL_ahead 349 = .ok (.iaload, 1) := by decide +kernel
theorem dL_ahead_350 : decode cL_ahead 350 = .ok (.sipush 1000, 3) := by decide +kernel
theorem dL_ahead_353 : decode cL_ahead 353 = .ok (.iadd, 1) := by decide +kernel
theorem dL_ahead_354 : decode cL_ahead 354 = .ok (.istore 10, 2) := by decide +kernel
theorem dL_ahead_356 : decode cL_ahead 356 = .ok (.goto (-85), 3) := by decide +kernel
theorem dL_ahead_359 : decode cL_ahead 359 = .ok (.aload_n 0, 1) := by decide +kernel
theorem dL_ahead_360 : decode cL_ahead 360 = .ok (.iload 8, 2) := by decide +kernel
theorem dL_ahead_362 : decode cL_ahead 362 = .ok (.iload 9, 2) := by decide +kernel
theorem dL_ahead_364 : decode cL_ahead 364 = .ok (.ifCond .le 7, 3) := by decide +kernel
theorem dL_ahead_367 : decode cL_ahead 367 = .ok (.iconst 1, 1) := by decide +kernel
theorem dL_ahead_368 : decode cL_ahead 368 = .ok (.goto 4, 3) := by decide +kernel
theorem dL_ahead_371 : decode cL_ahead 371 = .ok (.iconst 0, 1) := by decide +kernel
theorem dL_ahead_372 : decode cL_ahead 372 = .ok (.invokevirtual 112, 3) := by decide +kernel
theorem dL_ahead_375 : decode cL_ahead 375 = .ok (.iload 10, 2) := by decide +kernel
theorem dL_ahead_377 : decode cL_ahead 377 = .ok (.if_icmp .ne 7, 3) := by decide +kernel
theorem dL_ahead_380 : decode cL_ahead 380 = .ok (.iconst 1, 1) := by decide +kernel
theorem dL_ahead_381 : decode cL_ahead 381 = .ok (.goto 4, 3) := by decide +kernel
theorem dL_ahead_384 : decode cL_ahead 384 = .ok (.iconst 0, 1) := by decide +kernel
theorem dL_ahead_385 : decode cL_ahead 385 = .ok (.ireturn, 1) := by decide +kernel
theorem dL_put_0 : decode cL_put 0 = .ok (.aload 5, 2) := by decide +kernel
theorem dL_put_2 : decode cL_put 2 = .ok (.iconst 4, 1) := by decide +kernel
theorem dL_put_3 : decode cL_put 3 = .ok (.aload 4, 2) := by decide +kernel
theorem dL_put_5 : decode cL_put 5 = .ok (.iconst 0, 1) := by decide +kernel
theorem dL_put_6 : decode cL_put 6 = .ok (.iaload, 1) := by decide +kernel
theorem dL_put_7 : decode cL_put 7 = .ok (.imul, 1) := by decide +kernel
theorem dL_put_8 : decode cL_put 8 = .ok (.iload_n 0, 1) := by decide +kernel
theorem dL_put_9 : decode cL_put 9 = .ok (.iastore, 1) := by decide +kernel
theorem dL_put_10 : decode cL_put 10 = .ok (.aload 5, 2) := by decide +kernel
theorem dL_put_12 : decode cL_put 12 = .ok (.iconst 4, 1) := by decide +kernel
theorem dL_put_13 : decode cL_put 13 = .ok (.aload 4, 2) := by decide +kernel
theorem dL_put_15 : decode cL_put 15 = .ok (.iconst 0, 1) := by decide +kernel
theorem dL_put_16 : decode cL_put 16 = .ok (.iaload, 1) := by decide +kernel
theorem dL_put_17 : decode cL_put 17 = .ok (.imul, 1) := by decide +kernel
theorem dL_put_18 : decode cL_put 18 = .ok (.iconst 1, 1) := by decide +kernel
theorem dL_put_19 : decode cL_put 19 = .ok (.iadd, 1) := by decide +kernel
theorem dL_put_20 : decode cL_put 20 = .ok (.iload_n 1, 1) := by decide +kernel
theorem dL_put_21 : decode cL_put 21 = .ok (.iastore, 1) := by decide +kernel
theorem dL_put_22 : decode cL_put 22 = .ok (.aload 5, 2) := by decide +kernel
theorem dL_put_24 : decode cL_put 24 = .ok (.iconst 4, 1) := by decide +kernel
theorem dL_put_25 : decode cL_put 25 = .ok (.aload 4, 2) := by decide +kernel
theorem dL_put_27 : decode cL_put 27 = .ok (.iconst 0, 1) := by decide +kernel
theorem dL_put_28 : decode cL_put 28 = .ok (.iaload, 1) := by decide +kernel
theorem dL_put_29 : decode cL_put 29 = .ok (.imul, 1) := by decide +kernel
theorem dL_put_30 : decode cL_put 30 = .ok (.iconst 2, 1) := by decide +kernel
theorem dL_put_31 : decode cL_put 31 = .ok (.iadd, 1) := by decide +kernel
theorem dL_put_32 : decode cL_put 32 = .ok (.iload_n 2, 1) := by decide +kernel
theorem dL_put_33 : decode cL_put 33 = .ok (.iastore, 1) := by decide +kernel
theorem dL_put_34 : decode cL_put 34 = .ok (.aload 5, 2) := by decide +kernel
theorem dL_put_36 : decode cL_put 36 = .ok (.iconst 4, 1) := by decide +kernel
theorem dL_put_37 : decode cL_put 37 = .ok (.aload 4, 2) := by decide +kernel
theorem dL_put_39 : decode cL_put 39 = .ok (.iconst 0, 1) := by decide +kernel
theorem dL_put_40 : decode cL_put 40 = .ok (.iaload, 1) := by decide +kernel
theorem dL_put_41 : decode cL_put 41 = .ok (.imul, 1) := by decide +kernel
theorem dL_put_42 : decode cL_put 42 = .ok (.iconst 3, 1) := by decide +kernel
theorem dL_put_43 : decode cL_put 43 = .ok (.iadd, 1) := by decide +kernel
theorem dL_put_44 : decode cL_put 44 = .ok (.iload_n 3, 1) := by decide +kernel
theorem dL_put_45 : decode cL_put 45 = .ok (.iastore, 1) := by decide +kernel
theorem dL_put_46 : decode cL_put 46 = .ok (.aload 4, 2) := by decide +kernel
theorem dL_put_48 : decode cL_put 48 = .ok (.iconst 0, 1) := by decide +kernel
theorem dL_put_49 : decode cL_put 49 = .ok (.dup2, 1) := by decide +kernel
theorem dL_put_50 : decode cL_put 50 = .ok (.iaload, 1) := by decide +kernel
theorem dL_put_51 : decode cL_put 51 = .ok (.iconst 1, 1) := by decide +kernel
theorem dL_put_52 : decode cL_put 52 = .ok (.iadd, 1) := by decide +kernel
theorem dL_put_53 : decode cL_put 53 = .ok (.iastore, 1) := by decide +kernel
theorem dL_put_54 : decode cL_put 54 = .ok (.return_, 1) := by decide +kernel
theorem dL_type_0 : decode cL_type 0 = .ok (.iload_n 3, 1) := by decide +kernel
theorem dL_type_1 : decode cL_type 1 = .ok (.istore 4, 2) := by decide +kernel
theorem dL_type_3 : decode cL_type 3 = .ok (.iload_n 1, 1) := by decide +kernel
theorem dL_type_4 : decode cL_type 4 = .ok (.aload_n 2, 1) := by decide +kernel
theorem dL_type_5 : decode cL_type 5 = .ok (.invokestatic 8, 3) := by decide +kernel
theorem dL_type_8 : decode cL_type 8 = .ok (.istore 5, 2) := by decide +kernel
theorem dL_type_10 : decode cL_type 10 = .ok (.aload_n 2, 1) := by decide +kernel
theorem dL_type_11 : decode cL_type 11 = .ok (.iconst 4, 1) := by decide +kernel
theorem dL_type_12 : decode cL_type 12 = .ok (.iload_n 1, 1) := by decide +kernel
theorem dL_type_13 : decode cL_type 13 = .ok (.imul, 1) := by decide +kernel
theorem dL_type_14 : decode cL_type 14 = .ok (.iconst 3, 1) := by decide +kernel
theorem dL_type_15 : decode cL_type 15 = .ok (.iadd, 1) := by decide +kernel
theorem dL_type_16 : decode cL_type 16 = .ok (.iaload, 1) := by decide +kernel
theorem dL_type_17 : decode cL_type 17 = .ok (.istore 6, 2) := by decide +kernel
theorem dL_type_19 : decode cL_type 19 = .ok (.aload_n 0, 1) := by decide +kernel
theorem dL_type_20 : decode cL_type 20 = .ok (.iload 5, 2) := by decide +kernel
theorem dL_type_22 : decode cL_type 22 = .ok (.ifCond .ne 8, 3) := by decide +kernel
theorem dL_type_25 : decode cL_type 25 = .ok (.bipush 114, 2) := by decide +kernel
theorem dL_type_27 : decode cL_type 27 = .ok (.goto 16, 3) := by decide +kernel
theorem dL_type_30 : decode cL_type 30 = .ok (.iload 5, 2) := by decide +kernel
theorem dL_type_32 : decode cL_type 32 = .ok (.iconst 1, 1) := by decide +kernel
theorem dL_type_33 : decode cL_type 33 = .ok (.if_icmp .ne 8, 3) := by decide +kernel
theorem dL_type_36 : decode cL_type 36 = .ok (.bipush 115, 2) := by decide +kernel
theorem dL_type_38 : decode cL_type 38 = .ok (.goto 5, 3) := by decide +kernel
theorem dL_type_41 : decode cL_type 41 = .ok (.bipush 111, 2) := by decide +kernel
theorem dL_type_43 : decode cL_type 43 = .ok (.invokevirtual 116, 3) := by decide +kernel
theorem dL_type_46 : decode cL_type 46 = .ok (.iinc 4 1, 3) := by decide +kernel
theorem dL_type_49 : decode cL_type 49 = .ok (.iload 4, 2) := by decide +kernel
theorem dL_type_51 : decode cL_type 51 = .ok (.if_icmp .ne 25, 3) := by decide +kernel
theorem dL_type_54 : decode cL_type 54 = .ok (.aload_n 0, 1) := by decide +kernel
theorem dL_type_55 : decode cL_type 55 = .ok (.bipush 48, 2) := by decide +kernel
theorem dL_type_57 : decode cL_type 57 = .ok (.aload_n 2, 1) := by decide +kernel
theorem dL_type_58 : decode cL_type 58 = .ok (.iconst 4, 1) := by decide +kernel
theorem dL_type_59 : decode cL_type 59 = .ok (.iload_n 1, 1) := by decide +kernel
theorem dL_type_60 : decode cL_type 60 = .ok (.imul, 1) := by decide +kernel
theorem dL_type_61 : decode cL_type 61 = .ok (.iconst 1, 1) := by decide +kernel
theorem dL_type_62 : decode cL_type 62 = .ok (.iadd, 1) := by decide +kernel
theorem dL_type_63 : decode cL_type 63 = .ok (.iaload, 1) := by decide +kernel
theorem dL_type_64 : decode cL_type 64 = .ok (.iadd, 1) := by decide +kernel
theorem dL_type_65 : decode cL_type 65 = .ok (.invokevirtual 116, 3) := by decide +kernel
theorem dL_type_68 : decode cL_type 68 = .ok (.iinc 4 1, 3) := by decide +kernel
theorem dL_type_71 : decode cL_type 71 = .ok (.iload 4, 2) := by decide +kernel
theorem dL_type_73 : decode cL_type 73 = .ok (.if_icmp .eq 6, 3) := by decide +kernel
theorem dL_type_76 : decode cL_type 76 = .ok (.bipush (-99), 2) := by decide +kernel
theorem dL_type_78 : decode cL_type 78 = .ok (.ireturn, 1) := by decide +kernel
theorem dL_type_79 : decode cL_type 79 = .ok (.iload 5, 2) := by decide +kernel
theorem dL_type_81 : decode cL_type 81 = .ok (.iconst 1, 1) := by decide +kernel
theorem dL_type_82 : decode cL_type 82 = .ok (.if_icmp .eq 57, 3) := by decide +kernel
theorem dL_type_85 : decode cL_type 85 = .ok (.aload_n 0, 1) := by decide +kernel
theorem dL_type_86 : decode cL_type 86 = .ok (.bipush 48, 2) := by decide +kernel
theorem dL_type_88 : decode cL_type 88 = .ok (.aload_n 2, 1) := by decide +kernel
theorem dL_type_89 : decode cL_type 89 = .ok (.iconst 4, 1) := by decide +kernel
theorem dL_type_90 : decode cL_type 90 = .ok (.iload_n 1, 1) := by decide +kernel
theorem dL_type_91 : decode cL_type 91 = .ok (.imul, 1) := by decide +kernel
theorem dL_type_92 : decode cL_type 92 = .ok (.iconst 2, 1) := by decide +kernel
theorem dL_type_93 : decode cL_type 93 = .ok (.iadd, 1) := by decide +kernel
theorem dL_type_94 : decode cL_type 94 = .ok (.iaload, 1) := by decide +kernel
theorem dL_type_95 : decode cL_type 95 = .ok (.iadd, 1) := by decide +kernel
theorem dL_type_96 : decode cL_type 96 = .ok (.invokevirtual 116, 3) := by decide +kernel
theorem dL_type_99 : decode cL_type 99 = .ok (.iinc 4 1, 3) := by decide +kernel
theorem dL_type_102 : decode cL_type 102 = .ok (.iload 4, 2) := by decide +kernel
theorem dL_type_104 : decode cL_type 104 = .ok (.if_icmp .ne 29, 3) := by decide +kernel
theorem dL_type_107 : decode cL_type 107 = .ok (.aload_n 0, 1) := by decide +kernel
theorem dL_type_108 : decode cL_type 108 = .ok (.bipush 48, 2) := by decide +kernel
theorem dL_type_110 : decode cL_type 110 = .ok (.iload 6, 2) := by decide +kernel
theorem dL_type_112 : decode cL_type 112 = .ok (.iadd, 1) := by decide +kernel
theorem dL_type_113 : decode cL_type 113 = .ok (.invokevirtual 116, 3) := by decide +kernel
theorem dL_type_116 : decode cL_type 116 = .ok (.iinc 4 1, 3) := by decide +kernel
theorem dL_type_119 : decode cL_type 119 = .ok (.iload 4, 2) := by decide +kernel
theorem dL_type_121 : decode cL_type 121 = .ok (.if_icmp .ne 12, 3) := by decide +kernel
theorem dL_type_124 : decode cL_type 124 = .ok (.aload_n 0, 1) := by decide +kernel
theorem dL_type_125 : decode cL_type 125 = .ok (.invokevirtual 119, 3) := by decide +kernel
theorem dL_type_128 : decode cL_type 128 = .ok (.iload 4, 2) := by decide +kernel
theorem dL_type_130 : decode cL_type 130 = .ok (.if_icmp .eq 6, 3) := by decide +kernel
theorem dL_type_133 : decode cL_type 133 = .ok (.bipush (-99), 2) := by decide +kernel
theorem dL_type_135 : decode cL_type 135 = .ok (.ireturn, 1) := by decide +kernel
theorem dL_type_136 : decode cL_type 136 = .ok (.iload 4, 2) := by decide +kernel
theorem dL_type_138 : decode cL_type 138 = .ok (.ireturn, 1) := by decide +kernel
theorem dL_type_139 : decode cL_type 139 = .ok (.iload 6, 2) := by decide +kernel
theorem dL_type_141 : decode cL_type 141 = .ok (.ifCond .ge 9, 3) := by decide +kernel
theorem dL_type_144 : decode cL_type 144 = .ok (.iload 6, 2) := by decide +kernel
theorem dL_type_146 : decode cL_type 146 = .ok (.ineg, 1) := by decide +kernel
theorem dL_type_147 : decode cL_type 147 = .ok (.goto 5, 3) := by decide +kernel
theorem dL_type_150 : decode cL_type 150 = .ok (.iload 6, 2) := by decide +kernel
theorem dL_type_152 : decode cL_type 152 = .ok (.istore 7, 2) := by decide +kernel
theorem dL_type_154 : decode cL_type 154 = .ok (.iload 6, 2) := by decide +kernel
theorem dL_type_156 : decode cL_type 156 = .ok (.ifCond .ge 17, 3) := by decide +kernel
theorem dL_type_159 : decode cL_type 159 = .ok (.aload_n 0, 1) := by decide +kernel
theorem dL_type_160 : decode cL_type 160 = .ok (.bipush 45, 2) := by decide +kernel
theorem dL_type_162 : decode cL_type 162 = .ok (.invokevirtual 116, 3) := by decide +kernel
theorem dL_type_165 : decode cL_type 165 = .ok (.iinc 4 1, 3) := by decide +kernel
theorem dL_type_168 : decode cL_type 168 = .ok (.iload 4, 2) := by decide +kernel
theorem dL_type_170 : decode cL_type 170 = .ok (.if_icmp .ne 89, 3) := by decide +kernel
theorem dL_type_173 : decode cL_type 173 = .ok (.iload 7, 2) := by decide +kernel
theorem dL_type_175 : decode cL_type 175 = .ok (.bipush 99, 2) := by decide +kernel
theorem dL_type_177 : decode cL_type 177 = .ok (.if_icmp .le 23, 3) := by decide +kernel
theorem dL_type_180 : decode cL_type 180 = .ok (.aload_n 0, 1) := by decide +kernel
theorem dL_type_181 : decode cL_type 181 = .ok (.bipush 48, 2) := by decide +kernel
theorem dL_type_183 : decode cL_type 183 = .ok (.iload 7, 2) := by decide +kernel
theorem dL_type_185 : decode cL_type 185 = .ok (.bipush 100, 2) := by decide +kernel
theorem dL_type_187 : decode cL_type 187 = .ok (.idiv, 1) := by decide +kernel
theorem dL_type_188 : decode cL_type 188 = .ok (.iadd, 1) := by decide +kernel
theorem dL_type_189 : decode cL_type 189 = .ok (.invokevirtual 116, 3) := by decide +kernel
theorem dL_type_192 : decode cL_type 192 = .ok (.iinc 4 1, 3) := by decide +kernel
theorem dL_type_195 : decode cL_type 195 = .ok (.iload 4, 2) := by decide +kernel
theorem dL_type_197 : decode cL_type 197 = .ok (.if_icmp .ne 62, 3) := by decide +kernel
theorem dL_type_200 : decode cL_type 200 = .ok (.iload 7, 2) := by decide +kernel
theorem dL_type_202 : decode cL_type 202 = .ok (.bipush 9, 2) := by decide +kernel
theorem dL_type_204 : decode cL_type 204 = .ok (.if_icmp .le 26, 3) := by decide +kernel
theorem dL_type_207 : decode cL_type 207 = .ok (.aload_n 0, 1) := by decide +kernel
theorem dL_type_208 : decode cL_type 208 = .ok (.bipush 48, 2) := by decide +kernel
theorem dL_type_210 : decode cL_type 210 = .ok (.iload 7, 2) := by decide +kernel
theorem dL_type_212 : decode cL_type 212 = .ok (.bipush 10, 2) := by decide +kernel
theorem dL_type_214 : decode cL_type 214 = .ok (.idiv, 1) := by decide +kernel
theorem dL_type_215 : decode cL_type 215 = .ok (.bipush 10, 2) := by decide +kernel
theorem dL_type_217 : decode cL_type 217 = .ok (.irem, 1) := by decide +kernel
theorem dL_type_218 : decode cL_type 218 = .ok (.iadd, 1) := by decide +kernel
theorem dL_type_219 : decode cL_type 219 = .ok (.invokevirtual 116, 3) := by decide +kernel
theorem dL_type_222 : decode cL_type 222 = .ok (.iinc 4 1, 3) := by decide +kernel
theorem dL_type_225 : decode cL_type 225 = .ok (.iload 4, 2) := by decide +kernel
theorem dL_type_227 : decode cL_type 227 = .ok (.if_icmp .ne 32, 3) := by decide +kernel
theorem dL_type_230 : decode cL_type 230 = .ok (.aload_n 0, 1) := by decide +kernel
theorem dL_type_231 : decode cL_type 231 = .ok (.bipush 48, 2) := by decide +kernel
theorem dL_type_233 : decode cL_type 233 = .ok (.iload 7, 2) := by decide +kernel
theorem dL_type_235 : decode cL_type 235 = .ok (.bipush 10, 2) := by decide +kernel
theorem dL_type_237 : decode cL_type 237 = .ok (.irem, 1) := by decide +kernel
theorem dL_type_238 : decode cL_type 238 = .ok (.iadd, 1) := by decide +kernel
theorem dL_type_239 : decode cL_type 239 = .ok (.invokevirtual 116, 3) := by decide +kernel
theorem dL_type_242 : decode cL_type 242 = .ok (.iinc 4 1, 3) := by decide +kernel
theorem dL_type_245 : decode cL_type 245 = .ok (.iload 4, 2) := by decide +kernel
theorem dL_type_247 : decode cL_type 247 = .ok (.if_icmp .ne 12, 3) := by decide +kernel
theorem dL_type_250 : decode cL_type 250 = .ok (.aload_n 0, 1) := by decide +kernel
theorem dL_type_251 : decode cL_type 251 = .ok (.invokevirtual 119, 3) := by decide +kernel
theorem dL_type_254 : decode cL_type 254 = .ok (.iload 4, 2) := by decide +kernel
theorem dL_type_256 : decode cL_type 256 = .ok (.if_icmp .eq 6, 3) := by decide +kernel
theorem dL_type_259 : decode cL_type 259 = .ok (.bipush (-99), 2) := by decide +kernel
theorem dL_type_261 : decode cL_type 261 = .ok (.ireturn, 1) := by decide +kernel
theorem dL_type_262 : decode cL_type 262 = .ok (.iload 4, 2) := by decide +kernel
theorem dL_type_264 : decode cL_type 264 = .ok (.ireturn, 1) := by decide +kernel
theorem dL_load_0 : decode cL_load 0 = .ok (.aload_n 3, 1) := by decide +kernel
theorem dL_load_1 : decode cL_load 1 = .ok (.iconst 0, 1) := by decide +kernel
theorem dL_load_2 : decode cL_load 2 = .ok (.iaload, 1) := by decide +kernel
theorem dL_load_3 : decode cL_load 3 = .ok (.istore 7, 2) := by decide +kernel
theorem dL_load_5 : decode cL_load 5 = .ok (.iconst 1, 1) := by decide +kernel
theorem dL_load_6 : decode cL_load 6 = .ok (.iload_n 1, 1) := by decide +kernel
theorem dL_load_7 : decode cL_load 7 = .ok (.iconst 3, 1) := by decide +kernel
theorem dL_load_8 : decode cL_load 8 = .ok (.invokestatic 71, 3) := by decide +kernel
theorem dL_load_11 : decode cL_load 11 = .ok (.iadd, 1) := by decide +kernel
theorem dL_load_12 : decode cL_load 12 = .ok (.istore 8, 2) := by decide +kernel
theorem dL_load_14 : decode cL_load 14 = .ok (.iconst 0, 1) := by decide +kernel
theorem dL_load_15 : decode cL_load 15 = .ok (.istore 9, 2) := by decide +kernel
theorem dL_load_17 : decode cL_load 17 = .ok (.aload_n 0, 1) := by decide +kernel
theorem dL_load_18 : decode cL_load 18 = .ok (.invokevirtual 123, 3) := by decide +kernel
theorem dL_load_21 : decode cL_load 21 = .ok (.pop, 1) := by decide +kernel
theorem dL_load_22 : decode cL_load 22 = .ok (.iconst 0, 1) := by decide +kernel
theorem dL_load_23 : decode cL_load 23 = .ok (.istore 10, 2) := by decide +kernel
theorem dL_load_25 : decode cL_load 25 = .ok (.iload 10, 2) := by decide +kernel
theorem dL_load_27 : decode cL_load 27 = .ok (.iload 8, 2) := by decide +kernel
theorem dL_load_29 : decode cL_load 29 = .ok (.if_icmp .ge 288, 3) := by decide +kernel
theorem dL_load_32 : decode cL_load 32 = .ok (.aload_n 3, 1) := by decide +kernel
theorem dL_load_33 : decode cL_load 33 = .ok (.iconst 0, 1) := by decide +kernel
theorem dL_load_34 : decode cL_load 34 = .ok (.iaload, 1) := by decide +kernel
theorem dL_load_35 : decode cL_load 35 = .ok (.bipush 12, 2) := by decide +kernel
theorem dL_load_37 : decode cL_load 37 = .ok (.if_icmp .ge 280, 3) := by decide +kernel
theorem dL_load_40 : decode cL_load 40 = .ok (.iload_n 1, 1) := by decide +kernel
theorem dL_load_41 : decode cL_load 41 = .ok (.iconst 2, 1) := by decide +kernel
theorem dL_load_42 : decode cL_load 42 = .ok (.iload 10, 2) := by decide +kernel
theorem dL_load_44 : decode cL_load 44 = .ok (.imul, 1) := by decide +kernel
theorem dL_load_45 : decode cL_load 45 = .ok (.iconst 2, 1) := by decide +kernel
theorem dL_load_46 : decode cL_load 46 = .ok (.iadd, 1) := by decide +kernel
theorem dL_load_47 : decode cL_load 47 = .ok (.ishr, 1) := by decide +kernel
theorem dL_load_48 : decode cL_load 48 = .ok (.iload 10, 2) := by decide +kernel
theorem dL_load_50 : decode cL_load 50 = .ok (.iadd, 1) := by decide +kernel
theorem dL_load_51 : decode cL_load 51 = .ok (.istore 11, 2) := by decide +kernel
theorem dL_load_53 : decode cL_load 53 = .ok (.iload_n 2, 1) := by decide +kernel
theorem dL_load_54 : decode cL_load 54 = .ok (.iconst 3, 1) := by decide +kernel
theorem dL_load_55 : decode cL_load 55 = .ok (.iload 10, 2) := by decide +kernel
theorem dL_load_57 : decode cL_load 57 = .ok (.imul, 1) := by decide +kernel
theorem dL_load_58 : decode cL_load 58 = .ok (.ishr, 1) := by decide +kernel
theorem dL_load_59 : decode cL_load 59 = .ok (.iload 10, 2) := by decide +kernel
theorem dL_load_61 : decode cL_load 61 = .ok (.iadd, 1) := by decide +kernel
theorem dL_load_62 : decode cL_load 62 = .ok (.istore 12, 2) := by decide +kernel
theorem dL_load_64 : decode cL_load 64 = .ok (.iload 11, 2) := by decide +kernel
theorem dL_load_66 : decode cL_load 66 = .ok (.bipush 7, 2) := by decide +kernel
theorem dL_load_68 : decode cL_load 68 = .ok (.invokestatic 71, 3) := by decide +kernel
theorem dL_load_71 : decode cL_load 71 = .ok (.iconst 4, 1) := by decide +kernel
theorem dL_load_72 : decode cL_load 72 = .ok (.if_icmp .ge 7, 3) := by decide +kernel
theorem dL_load_75 : decode cL_load 75 = .ok (.iconst 0, 1) := by decide +kernel
theorem dL_load_76 : decode cL_load 76 = .ok (.goto 20, 3) := by decide +kernel
theorem dL_load_79 : decode cL_load 79 = .ok (.iload 11, 2) := by decide +kernel
theorem dL_load_81 : decode cL_load 81 = .ok (.bipush 7, 2) := by decide +kernel
theorem dL_load_83 : decode cL_load 83 = .ok (.invokestatic 71, 3) := by decide +kernel
theorem dL_load_86 : decode cL_load 86 = .ok (.bipush 6, 2) := by decide +kernel
theorem dL_load_88 : decode cL_load 88 = .ok (.if_icmp .ge 7, 3) := by decide +kernel
theorem dL_load_91 : decode cL_load 91 = .ok (.iconst 1, 1) := by decide +kernel
theorem dL_load_92 : decode cL_load 92 = .ok (.goto 4, 3) := by decide +kernel
theorem dL_load_95 : decode cL_load 95 = .ok (.iconst 2, 1) := by decide +kernel
theorem dL_load_96 : decode cL_load 96 = .ok (.istore 13, 2) := by decide +kernel
theorem dL_load_98 : decode cL_load 98 = .ok (.iload 11, 2) := by decide +kernel
theorem dL_load_100 : decode cL_load 100 = .ok (.iconst 3, 1) := by decide +kernel
theorem dL_load_101 : decode cL_load 101 = .ok (.ishr, 1) := by decide +kernel
theorem dL_load_102 : decode cL_load 102 = .ok (.bipush 7, 2) := by decide +kernel
theorem dL_load_104 : decode cL_load 104 = .ok (.invokestatic 71, 3) := by decide +kernel
theorem dL_load_107 : decode cL_load 107 = .ok (.istore 14, 2) := by decide +kernel
theorem dL_load_109 : decode cL_load 109 = .ok (.iload 14, 2) := by decide +kernel
theorem dL_load_111 : decode cL_load 111 = .ok (.iconst 1, 1) := by decide +kernel
theorem dL_load_112 : decode cL_load 112 = .ok (.iadd, 1) := by decide +kernel
theorem dL_load_113 : decode cL_load 113 = .ok (.iload 12, 2) := by decide +kernel
theorem dL_load_115 : decode cL_load 115 = .ok (.bipush 6, 2) := by decide +kernel
theorem dL_load_117 : decode cL_load 117 = .ok (.invokestatic 71, 3) := by decide +kernel
theorem dL_load_120 : decode cL_load 120 = .ok (.iadd, 1) := by decide +kernel
theorem dL_load_121 : decode cL_load 121 = .ok (.bipush 7, 2) := by decide +kernel
theorem dL_load_123 : decode cL_load 123 = .ok (.irem, 1) := by decide +kernel
theorem dL_load_124 : decode cL_load 124 = .ok (.istore 15, 2) := by decide +kernel
theorem dL_load_126 : decode cL_load 126 = .ok (.iload 12, 2) := by decide +kernel
theorem dL_load_128 : decode cL_load 128 = .ok (.iconst 4, 1) := by decide +kernel
theorem dL_load_129 : decode cL_load 129 = .ok (.ishr, 1) := by decide +kernel
theorem dL_load_130 : decode cL_load 130 = .ok (.bipush 7, 2) := by decide +kernel
theorem dL_load_132 : decode cL_load 132 = .ok (.invokestatic 71, 3) := by decide +kernel
theorem dL_load_135 : decode cL_load 135 = .ok (.istore 16, 2) := by decide +kernel
theorem dL_load_137 : decode cL_load 137 = .ok (.iload 13, 2) := by decide +kernel
theorem dL_load_139 : decode cL_load 139 = .ok (.iconst 1, 1) := by decide +kernel
theorem dL_load_140 : decode cL_load 140 = .ok (.if_icmp .ne 22, 3) := by decide +kernel
theorem dL_load_143 : decode cL_load 143 = .ok (.iload 14, 2) := by decide +kernel
theorem dL_load_145 : decode cL_load 145 = .ok (.ifCond .eq 14, 3) := by decide +kernel
theorem dL_load_148 : decode cL_load 148 = .ok (.iload 14, 2) := by decide +kernel
theorem dL_load_150 : decode cL_load 150 = .ok (.aload_n 3, 1) := by decide +kernel
theorem dL_load_151 : decode cL_load 151 = .ok (.aload 4, 2) := by decide +kernel
theorem dL_load_153 : decode cL_load 153 = .ok (.invokestatic 25, 3) := by decide +kernel
theorem dL_load_156 : decode cL_load 156 = .ok (.ifCond .lt 6, 3) := by decide +kernel
theorem dL_load_159 : decode cL_load 159 = .ok (.iconst 0, 1) := by decide +kernel
theorem dL_load_160 : decode cL_load 160 = .ok (.istore 13, 2) := by decide +kernel
theorem dL_load_162 : decode cL_load 162 = .ok (.iload 13, 2) := by decide +kernel
theorem dL_load_164 : decode cL_load 164 = .ok (.iconst 2, 1) := by decide +kernel
theorem dL_load_165 : decode cL_load 165 = .ok (.if_icmp .ne 48, 3) := by decide +kernel
theorem dL_load_168 : decode cL_load 168 = .ok (.iload 16, 2) := by decide +kernel
theorem dL_load_170 : decode cL_load 170 = .ok (.ifCond .eq 40, 3) := by decide +kernel
theorem dL_load_173 : decode cL_load 173 = .ok (.iload 16, 2) := by decide +kernel
theorem dL_load_175 : decode cL_load 175 = .ok (.iload 14, 2) := by decide +kernel
theorem dL_load_177 : decode cL_load 177 = .ok (.if_icmp .eq 33, 3) := by decide +kernel
theorem dL_load_180 : decode cL_load 180 = .ok (.iload 16, 2) := by decide +kernel
theorem dL_load_182 : decode cL_load 182 = .ok (.iload 15, 2) := by decide +kernel
theorem dL_load_184 : decode cL_load 184 = .ok (.if_icmp .eq 26, 3) := by decide +kernel
theorem dL_load_187 : decode cL_load 187 = .ok (.iload 16, 2) := by decide +kernel
theorem dL_load_189 : decode cL_load 189 = .ok (.aload_n 3, 1) := by decide +kernel
theorem dL_load_190 : decode cL_load 190 = .ok (.aload 4, 2) := by decide +kernel
theorem dL_load_192 : decode cL_load 192 = .ok (.invokestatic 25, 3) := by decide +kernel
theorem dL_load_195 : decode cL_load 195 = .ok (.ifCond .ge 15, 3) := by decide +kernel
theorem dL_load_198 : decode cL_load 198 = .ok (.aload_n 3, 1) := by decide +kernel
theorem dL_load_199 : decode cL_load 199 = .ok (.iconst 0, 1) := by decide +kernel
theorem dL_load_200 : decode cL_load 200 = .ok (.iaload, 1) := by decide +kernel
theorem dL_load_201 : decode cL_load 201 = .ok (.aload 4, 2) := by decide +kernel
theorem dL_load_203 : decode cL_load 203 = .ok (.invokestatic 18, 3) := by decide +kernel
theorem dL_load_206 : decode cL_load 206 = .ok (.iconst 3, 1) := by decide +kernel
theorem dL_load_207 : decode cL_load 207 = .ok (.if_icmp .ne 6, 3) := by decide +kernel
theorem dL_load_210 : decode cL_load 210 = .ok (.iconst 0, 1) := by decide +kernel
theorem dL_load_211 : decode cL_load 211 = .ok (.istore 13, 2) := by decide +kernel
theorem dL_load_213 : decode cL_load 213 = .ok (.iload 13, 2) := by decide +kernel
theorem dL_load_215 : decode cL_load 215 = .ok (.iload 14, 2) := by decide +kernel
theorem dL_load_217 : decode cL_load 217 = .ok (.iload 15, 2) := by decide +kernel
theorem dL_load_219 : decode cL_load 219 = .ok (.iload 13, 2) := by decide +kernel
theorem dL_load_221 : decode cL_load 221 = .ok (.ifCond .ne 16, 3) := by decide +kernel
theorem dL_load_224 : decode cL_load 224 = .ok (.iconst 1, 1) := by decide +kernel
theorem dL_load_225 : decode cL_load 225 = .ok (.iload 12, 2) := by decide +kernel
theorem dL_load_227 : decode cL_load 227 = .ok (.iconst 4, 1) := by decide +kernel
theorem dL_load_228 : decode cL_load 228 = .ok (.ishr, 1) := by decide +kernel
theorem dL_load_229 : decode cL_load 229 = .ok (.iconst 4, 1) := by decide +kernel
theorem dL_load_230 : decode cL_load 230 = .ok (.invokestatic 71, 3) := by decide +kernel
theorem dL_load_233 : decode cL_load 233 = .ok (.iadd, 1) := by decide +kernel
theorem dL_load_234 : decode cL_load 234 = .ok (.goto 28, 3) := by decide +kernel
theorem dL_load_237 : decode cL_load 237 = .ok (.iload 13, 2) := by decide +kernel
theorem dL_load_239 : decode cL_load 239 = .ok (.iconst 1, 1) := by decide +kernel
theorem dL_load_240 : decode cL_load 240 = .ok (.if_icmp .ne 20, 3) := by decide +kernel
theorem dL_load_243 : decode cL_load 243 = .ok (.iload 12, 2) := by decide +kernel
theorem dL_load_245 : decode cL_load 245 = .ok (.iconst 2, 1) := by decide +kernel
theorem dL_load_246 : decode cL_load 246 = .ok (.ishr, 1) := by decide +kernel
theorem dL_load_247 : decode cL_load 247 = .ok (.sipush 401, 3) := by decide +kernel
theorem dL_load_250 : decode cL_load 250 = .ok (.invokestatic 71, 3) := by decide +kernel
theorem dL_load_253 : decode cL_load 253 = .ok (.sipush 200, 3) := by decide +kernel
theorem dL_load_256 : decode cL_load 256 = .ok (.isub, 1) := by decide +kernel
theorem dL_load_257 : decode cL_load 257 = .ok (.goto 5, 3) := by decide +kernel
theorem dL_load_260 : decode cL_load 260 = .ok (.iload 16, 2) := by decide +kernel
theorem dL_load_262 : decode cL_load 262 = .ok (.aload_n 3, 1) := by decide +kernel
theorem dL_load_263 : decode cL_load 263 = .ok (.aload 4, 2) := by decide +kernel
theorem dL_load_265 : decode cL_load 265 = .ok (.invokestatic 126, 3) := by decide +kernel
theorem dL_load_268 : decode cL_load 268 = .ok (.iload 9, 2) := by decide +kernel
theorem dL_load_270 : decode cL_load 270 = .ok (.ifCond .le 19, 3) := by decide +kernel
theorem dL_load_273 : decode cL_load 273 = .ok (.aload_n 0, 1) := by decide +kernel
theorem dL_load_274 : decode cL_load 274 = .ok (.bipush 59, 2) := by decide +kernel
theorem dL_load_276 : decode cL_load 276 = .ok (.invokevirtual 116, 3) := by decide +kernel
theorem dL_load_279 : decode cL_load 279 = .ok (.iinc 9 1, 3) := by decide +kernel
theorem dL_load_282 : decode cL_load 282 = .ok (.iload 9, 2) := by decide +kernel
theorem dL_load_284 : decode cL_load 284 = .ok (.if_icmp .eq 5, 3) := by decide +kernel
theorem dL_load_287 : decode cL_load 287 = .ok (.iconst 0, 1) := by decide +kernel
theorem dL_load_288 : decode cL_load 288 = .ok (.ireturn, 1) := by decide +kernel
theorem dL_load_289 : decode cL_load 289 = .ok (.aload_n 0, 1) := by decide +kernel
theorem dL_load_290 : decode cL_load 290 = .ok (.aload_n 3, 1) := by decide +kernel
theorem dL_load_291 : decode cL_load 291 = .ok (.iconst 0, 1) := by decide +kernel
theorem dL_load_292 : decode cL_load 292 = .ok (.iaload, 1) := by decide +kernel
theorem dL_load_293 : decode cL_load 293 = .ok (.iconst 1, 1) := by decide +kernel
theorem dL_load_294 : decode cL_load 294 = .ok (.isub, 1) := by decide +kernel
theorem dL_load_295 : decode cL_load 295 = .ok (.aload 4, 2) := by decide +kernel
theorem dL_load_297 : decode cL_load 297 = .ok (.iload 9, 2) := by decide +kernel
theorem dL_load_299 : decode cL_load 299 = .ok (.invokestatic 130, 3) := by decide +kernel
theorem dL_load_302 : decode cL_load 302 = .ok (.istore 9, 2) := by decide +kernel
theorem dL_load_304 : decode cL_load 304 = .ok (.iload 9, 2) := by decide +kernel
theorem dL_load_306 : decode cL_load 306 = .ok (.ifCond .ge 5, 3) := by decide +kernel
theorem dL_load_309 : decode cL_load 309 = .ok (.iconst 0, 1) := by decide +kernel
theorem dL_load_310 : decode cL_load 310 = .ok (.ireturn, 1) := by decide +kernel
theorem dL_load_311 : decode cL_load 311 = .ok (.iinc 10 1, 3) := by decide +kernel
theorem dL_load_314 : decode cL_load 314 = .ok (.goto (-289), 3) := by decide +kernel
theorem dL_load_317 : decode cL_load 317 = .ok (.aload_n 3, 1) := by decide +kernel
theorem dL_load_318 : decode cL_load 318 = .ok (.iconst 0, 1) := by decide +kernel
theorem dL_load_319 : decode cL_load 319 = .ok (.iaload, 1) := by decide +kernel
theorem dL_load_320 : decode cL_load 320 = .ok (.iload 7, 2) := by decide +kernel
theorem dL_load_322 : decode cL_load 322 = .ok (.if_icmp .ne 5, 3) := by decide +kernel
theorem dL_load_325 : decode cL_load 325 = .ok (.iconst 1, 1) := by decide +kernel
theorem dL_load_326 : decode cL_load 326 = .ok (.ireturn, 1) := by decide +kernel
theorem dL_load_327 : decode cL_load 327 = .ok (.aload_n 3, 1) := by decide +kernel
theorem dL_load_328 : decode cL_load 328 = .ok (.aload 4, 2) := by decide +kernel
theorem dL_load_330 : decode cL_load 330 = .ok (.aload 5, 2) := by decide +kernel
theorem dL_load_332 : decode cL_load 332 = .ok (.aload 6, 2) := by decide +kernel
theorem dL_load_334 : decode cL_load 334 = .ok (.invokestatic 105, 3) := by decide +kernel
theorem dL_load_337 : decode cL_load 337 = .ok (.pop, 1) := by decide +kernel
theorem dL_load_338 : decode cL_load 338 = .ok (.aload_n 0, 1) := by decide +kernel
theorem dL_load_339 : decode cL_load 339 = .ok (.invokevirtual 134, 3) := by decide +kernel
theorem dL_load_342 : decode cL_load 342 = .ok (.aload_n 3, 1) := by decide +kernel
theorem dL_load_343 : decode cL_load 343 = .ok (.iconst 0, 1) := by decide +kernel
theorem dL_load_344 : decode cL_load 344 = .ok (.iaload, 1) := by decide +kernel
theorem dL_load_345 : decode cL_load 345 = .ok (.if_icmp .ne 14, 3) := by decide +kernel
theorem dL_load_348 : decode cL_load 348 = .ok (.aload_n 0, 1) := by decide +kernel
theorem dL_load_349 : decode cL_load 349 = .ok (.invokevirtual 123, 3) := by decide +kernel
theorem dL_load_352 : decode cL_load 352 = .ok (.ifCond .ne 7, 3) := by decide +kernel
theorem dL_load_355 : decode cL_load 355 = .ok (.iconst 1, 1) := by decide +kernel
theorem dL_load_356 : decode cL_load 356 = .ok (.goto 4, 3) := by decide +kernel
theorem dL_load_359 : decode cL_load 359 = .ok (.iconst 0, 1) := by decide +kernel
theorem dL_load_360 : decode cL_load 360 = .ok (.ireturn, 1) := by decide +kernel
theorem dL_stage_0 : decode cL_stage 0 = .ok (.aload_n 2, 1) := by decide +kernel
theorem dL_stage_1 : decode cL_stage 1 = .ok (.iconst 0, 1) := by decide +kernel
theorem dL_stage_2 : decode cL_stage 2 = .ok (.iaload, 1) := by decide +kernel
theorem dL_stage_3 : decode cL_stage 3 = .ok (.ifCond .le 5, 3) := by decide +kernel
theorem dL_stage_6 : decode cL_stage 6 = .ok (.iconst 1, 1) := by decide +kernel
theorem dL_stage_7 : decode cL_stage 7 = .ok (.ireturn, 1) := by decide +kernel
theorem dL_stage_8 : decode cL_stage 8 = .ok (.iload_n 1, 1) := by decide +kernel
theorem dL_stage_9 : decode cL_stage 9 = .ok (.iconst 3, 1) := by decide +kernel
theorem dL_stage_10 : decode cL_stage 10 = .ok (.invokestatic 71, 3) := by decide +kernel
theorem dL_stage_13 : decode cL_stage 13 = .ok (.ifCond .ne 7, 3) := by decide +kernel
theorem dL_stage_16 : decode cL_stage 16 = .ok (.iconst 1, 1) := by decide +kernel
theorem dL_stage_17 : decode cL_stage 17 = .ok (.goto 4, 3) := by decide +kernel
theorem dL_stage_20 : decode cL_stage 20 = .ok (.iconst 0, 1) := by decide +kernel
theorem dL_stage_21 : decode cL_stage 21 = .ok (.istore 6, 2) := by decide +kernel
theorem dL_stage_23 : decode cL_stage 23 = .ok (.iconst 1, 1) := by decide +kernel
theorem dL_stage_24 : decode cL_stage 24 = .ok (.iconst 1, 1) := by decide +kernel
theorem dL_stage_25 : decode cL_stage 25 = .ok (.iconst (-1), 1) := by decide +kernel
theorem dL_stage_26 : decode cL_stage 26 = .ok (.iload_n 1, 1) := by decide +kernel
theorem dL_stage_27 : decode cL_stage 27 = .ok (.iconst 2, 1) := by decide +kernel
theorem dL_stage_28 : decode cL_stage 28 = .ok (.ishr, 1) := by decide +kernel
theorem dL_stage_29 : decode cL_stage 29 = .ok (.sipush 401, 3) := by decide +kernel
theorem dL_stage_32 : decode cL_stage 32 = .ok (.invokestatic 71, 3) := by decide +kernel
theorem dL_stage_35 : decode cL_stage 35 = .ok (.sipush 200, 3) := by decide +kernel
theorem dL_stage_38 : decode cL_stage 38 = .ok (.isub, 1) := by decide +kernel
theorem dL_stage_39 : decode cL_stage 39 = .ok (.aload_n 2, 1) := by decide +kernel
theorem dL_stage_40 : decode cL_stage 40 = .ok (.aload_n 3, 1) := by decide +kernel
theorem dL_stage_41 : decode cL_stage 41 = .ok (.invokestatic 126, 3) := by decide +kernel
theorem dL_stage_44 : decode cL_stage 44 = .ok (.iconst 0, 1) := by decide +kernel
theorem dL_stage_45 : decode cL_stage 45 = .ok (.iload 6, 2) := by decide +kernel
theorem dL_stage_47 : decode cL_stage 47 = .ok (.ifCond .eq 7, 3) := by decide +kernel
theorem dL_stage_50 : decode cL_stage 50 = .ok (.iconst 0, 1) := by decide +kernel
theorem dL_stage_51 : decode cL_stage 51 = .ok (.goto 4, 3) := by decide +kernel
theorem dL_stage_54 : decode cL_stage 54 = .ok (.iconst 1, 1) := by decide +kernel
theorem dL_stage_55 : decode cL_stage 55 = .ok (.iconst 2, 1) := by decide +kernel
theorem dL_stage_56 : decode cL_stage 56 = .ok (.iconst 1, 1) := by decide +kernel
theorem dL_stage_57 : decode cL_stage 57 = .ok (.iload_n 1, 1) := by decide +kernel
theorem dL_stage_58 : decode cL_stage 58 = .ok (.iconst 4, 1) := by decide +kernel
theorem dL_stage_59 : decode cL_stage 59 = .ok (.ishr, 1) := by decide +kernel
theorem dL_stage_60 : decode cL_stage 60 = .ok (.iconst 4, 1) := by decide +kernel
theorem dL_stage_61 : decode cL_stage 61 = .ok (.invokestatic 71, 3) := by decide +kernel
theorem dL_stage_64 : decode cL_stage 64 = .ok (.iadd, 1) := by decide +kernel
theorem dL_stage_65 : decode cL_stage 65 = .ok (.aload_n 2, 1) := by decide +kernel
theorem dL_stage_66 : decode cL_stage 66 = .ok (.aload_n 3, 1) := by decide +kernel
theorem dL_stage_67 : decode cL_stage 67 = .ok (.invokestatic 126, 3) := by decide +kernel
theorem dL_stage_70 : decode cL_stage 70 = .ok (.iconst 0, 1) := by decide +kernel
theorem dL_stage_71 : decode cL_stage 71 = .ok (.iconst 2, 1) := by decide +kernel
theorem dL_stage_72 : decode cL_stage 72 = .ok (.iconst 3, 1) := by decide +kernel
theorem dL_stage_73 : decode cL_stage 73 = .ok (.iconst 1, 1) := by decide +kernel
theorem dL_stage_74 : decode cL_stage 74 = .ok (.iload_n 1, 1) := by decide +kernel
theorem dL_stage_75 : decode cL_stage 75 = .ok (.bipush 6, 2) := by decide +kernel
theorem dL_stage_77 : decode cL_stage 77 = .ok (.ishr, 1) := by decide +kernel
theorem dL_stage_78 : decode cL_stage 78 = .ok (.iconst 4, 1) := by decide +kernel
theorem dL_stage_79 : decode cL_stage 79 = .ok (.invokestatic 71, 3) := by decide +kernel
theorem dL_stage_82 : decode cL_stage 82 = .ok (.iadd, 1) := by decide +kernel
theorem dL_stage_83 : decode cL_stage 83 = .ok (.aload_n 2, 1) := by decide +kernel
theorem dL_stage_84 : decode cL_stage 84 = .ok (.aload_n 3, 1) := by decide +kernel
