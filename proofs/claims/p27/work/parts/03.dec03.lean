theorem dL_stage_85 : decode cL_stage 85 = .ok (.invokestatic 126, 3) := by decide +kernel
theorem dL_stage_88 : decode cL_stage 88 = .ok (.iconst 2, 1) := by decide +kernel
theorem dL_stage_89 : decode cL_stage 89 = .ok (.iload 6, 2) := by decide +kernel
theorem dL_stage_91 : decode cL_stage 91 = .ok (.ifCond .eq 7, 3) := by decide +kernel
theorem dL_stage_94 : decode cL_stage 94 = .ok (.iconst 2, 1) := by decide +kernel
theorem dL_stage_95 : decode cL_stage 95 = .ok (.goto 4, 3) := by decide +kernel
theorem dL_stage_98 : decode cL_stage 98 = .ok (.iconst 0, 1) := by decide +kernel
theorem dL_stage_99 : decode cL_stage 99 = .ok (.iload 6, 2) := by decide +kernel
theorem dL_stage_101 : decode cL_stage 101 = .ok (.ifCond .eq 7, 3) := by decide +kernel
theorem dL_stage_104 : decode cL_stage 104 = .ok (.iconst 1, 1) := by decide +kernel
theorem dL_stage_105 : decode cL_stage 105 = .ok (.goto 4, 3) := by decide +kernel
theorem dL_stage_108 : decode cL_stage 108 = .ok (.iconst 2, 1) := by decide +kernel
theorem dL_stage_109 : decode cL_stage 109 = .ok (.iconst 3, 1) := by decide +kernel
theorem dL_stage_110 : decode cL_stage 110 = .ok (.aload_n 2, 1) := by decide +kernel
theorem dL_stage_111 : decode cL_stage 111 = .ok (.aload_n 3, 1) := by decide +kernel
theorem dL_stage_112 : decode cL_stage 112 = .ok (.invokestatic 126, 3) := by decide +kernel
theorem dL_stage_115 : decode cL_stage 115 = .ok (.iconst 0, 1) := by decide +kernel
theorem dL_stage_116 : decode cL_stage 116 = .ok (.istore 7, 2) := by decide +kernel
theorem dL_stage_118 : decode cL_stage 118 = .ok (.aload_n 0, 1) := by decide +kernel
theorem dL_stage_119 : decode cL_stage 119 = .ok (.invokevirtual 123, 3) := by decide +kernel
theorem dL_stage_122 : decode cL_stage 122 = .ok (.pop, 1) := by decide +kernel
theorem dL_stage_123 : decode cL_stage 123 = .ok (.iconst 0, 1) := by decide +kernel
theorem dL_stage_124 : decode cL_stage 124 = .ok (.istore 8, 2) := by decide +kernel
theorem dL_stage_126 : decode cL_stage 126 = .ok (.iload 8, 2) := by decide +kernel
theorem dL_stage_128 : decode cL_stage 128 = .ok (.iconst 4, 1) := by decide +kernel
theorem dL_stage_129 : decode cL_stage 129 = .ok (.if_icmp .ge 48, 3) := by decide +kernel
theorem dL_stage_132 : decode cL_stage 132 = .ok (.iload 8, 2) := by decide +kernel
theorem dL_stage_134 : decode cL_stage 134 = .ok (.ifCond .le 19, 3) := by decide +kernel
theorem dL_stage_137 : decode cL_stage 137 = .ok (.aload_n 0, 1) := by decide +kernel
theorem dL_stage_138 : decode cL_stage 138 = .ok (.bipush 59, 2) := by decide +kernel
theorem dL_stage_140 : decode cL_stage 140 = .ok (.invokevirtual 116, 3) := by decide +kernel
theorem dL_stage_143 : decode cL_stage 143 = .ok (.iinc 7 1, 3) := by decide +kernel
theorem dL_stage_146 : decode cL_stage 146 = .ok (.iload 7, 2) := by decide +kernel
theorem dL_stage_148 : decode cL_stage 148 = .ok (.if_icmp .eq 5, 3) := by decide +kernel
theorem dL_stage_151 : decode cL_stage 151 = .ok (.iconst 0, 1) := by decide +kernel
theorem dL_stage_152 : decode cL_stage 152 = .ok (.ireturn, 1) := by decide +kernel
theorem dL_stage_153 : decode cL_stage 153 = .ok (.aload_n 0, 1) := by decide +kernel
theorem dL_stage_154 : decode cL_stage 154 = .ok (.iload 8, 2) := by decide +kernel
theorem dL_stage_156 : decode cL_stage 156 = .ok (.aload_n 3, 1) := by decide +kernel
theorem dL_stage_157 : decode cL_stage 157 = .ok (.iload 7, 2) := by decide +kernel
theorem dL_stage_159 : decode cL_stage 159 = .ok (.invokestatic 130, 3) := by decide +kernel
theorem dL_stage_162 : decode cL_stage 162 = .ok (.istore 7, 2) := by decide +kernel
theorem dL_stage_164 : decode cL_stage 164 = .ok (.iload 7, 2) := by decide +kernel
theorem dL_stage_166 : decode cL_stage 166 = .ok (.ifCond .ge 5, 3) := by decide +kernel
theorem dL_stage_169 : decode cL_stage 169 = .ok (.iconst 0, 1) := by decide +kernel
theorem dL_stage_170 : decode cL_stage 170 = .ok (.ireturn, 1) := by decide +kernel
theorem dL_stage_171 : decode cL_stage 171 = .ok (.iinc 8 1, 3) := by decide +kernel
theorem dL_stage_174 : decode cL_stage 174 = .ok (.goto (-48), 3) := by decide +kernel
theorem dL_stage_177 : decode cL_stage 177 = .ok (.aload_n 0, 1) := by decide +kernel
theorem dL_stage_178 : decode cL_stage 178 = .ok (.bipush 57, 2) := by decide +kernel
theorem dL_stage_180 : decode cL_stage 180 = .ok (.invokevirtual 116, 3) := by decide +kernel
theorem dL_stage_183 : decode cL_stage 183 = .ok (.iload 7, 2) := by decide +kernel
theorem dL_stage_185 : decode cL_stage 185 = .ok (.iconst 1, 1) := by decide +kernel
theorem dL_stage_186 : decode cL_stage 186 = .ok (.iadd, 1) := by decide +kernel
theorem dL_stage_187 : decode cL_stage 187 = .ok (.if_icmp .ne 23, 3) := by decide +kernel
theorem dL_stage_190 : decode cL_stage 190 = .ok (.aload_n 0, 1) := by decide +kernel
theorem dL_stage_191 : decode cL_stage 191 = .ok (.invokevirtual 119, 3) := by decide +kernel
theorem dL_stage_194 : decode cL_stage 194 = .ok (.iload 7, 2) := by decide +kernel
theorem dL_stage_196 : decode cL_stage 196 = .ok (.if_icmp .ne 14, 3) := by decide +kernel
theorem dL_stage_199 : decode cL_stage 199 = .ok (.aload_n 0, 1) := by decide +kernel
theorem dL_stage_200 : decode cL_stage 200 = .ok (.invokevirtual 123, 3) := by decide +kernel
theorem dL_stage_203 : decode cL_stage 203 = .ok (.iload 7, 2) := by decide +kernel
theorem dL_stage_205 : decode cL_stage 205 = .ok (.iconst 1, 1) := by decide +kernel
theorem dL_stage_206 : decode cL_stage 206 = .ok (.iadd, 1) := by decide +kernel
theorem dL_stage_207 : decode cL_stage 207 = .ok (.if_icmp .eq 5, 3) := by decide +kernel
theorem dL_stage_210 : decode cL_stage 210 = .ok (.iconst 0, 1) := by decide +kernel
theorem dL_stage_211 : decode cL_stage 211 = .ok (.ireturn, 1) := by decide +kernel
theorem dL_stage_212 : decode cL_stage 212 = .ok (.iconst 0, 1) := by decide +kernel
theorem dL_stage_213 : decode cL_stage 213 = .ok (.istore 7, 2) := by decide +kernel
theorem dL_stage_215 : decode cL_stage 215 = .ok (.iconst 0, 1) := by decide +kernel
theorem dL_stage_216 : decode cL_stage 216 = .ok (.istore 8, 2) := by decide +kernel
theorem dL_stage_218 : decode cL_stage 218 = .ok (.iload 8, 2) := by decide +kernel
theorem dL_stage_220 : decode cL_stage 220 = .ok (.iconst 4, 1) := by decide +kernel
theorem dL_stage_221 : decode cL_stage 221 = .ok (.if_icmp .ge 41, 3) := by decide +kernel
theorem dL_stage_224 : decode cL_stage 224 = .ok (.iload 8, 2) := by decide +kernel
theorem dL_stage_226 : decode cL_stage 226 = .ok (.ifCond .le 19, 3) := by decide +kernel
theorem dL_stage_229 : decode cL_stage 229 = .ok (.aload_n 0, 1) := by decide +kernel
theorem dL_stage_230 : decode cL_stage 230 = .ok (.bipush 59, 2) := by decide +kernel
theorem dL_stage_232 : decode cL_stage 232 = .ok (.invokevirtual 116, 3) := by decide +kernel
theorem dL_stage_235 : decode cL_stage 235 = .ok (.iinc 7 1, 3) := by decide +kernel
theorem dL_stage_238 : decode cL_stage 238 = .ok (.iload 7, 2) := by decide +kernel
theorem dL_stage_240 : decode cL_stage 240 = .ok (.if_icmp .eq 5, 3) := by decide +kernel
theorem dL_stage_243 : decode cL_stage 243 = .ok (.iconst 0, 1) := by decide +kernel
theorem dL_stage_244 : decode cL_stage 244 = .ok (.ireturn, 1) := by decide +kernel
theorem dL_stage_245 : decode cL_stage 245 = .ok (.aload_n 0, 1) := by decide +kernel
theorem dL_stage_246 : decode cL_stage 246 = .ok (.iload 8, 2) := by decide +kernel
theorem dL_stage_248 : decode cL_stage 248 = .ok (.aload_n 3, 1) := by decide +kernel
theorem dL_stage_249 : decode cL_stage 249 = .ok (.iload 7, 2) := by decide +kernel
theorem dL_stage_251 : decode cL_stage 251 = .ok (.invokestatic 130, 3) := by decide +kernel
theorem dL_stage_254 : decode cL_stage 254 = .ok (.istore 7, 2) := by decide +kernel
theorem dL_stage_256 : decode cL_stage 256 = .ok (.iinc 8 1, 3) := by decide +kernel
theorem dL_stage_259 : decode cL_stage 259 = .ok (.goto (-41), 3) := by decide +kernel
theorem dL_stage_262 : decode cL_stage 262 = .ok (.aload_n 2, 1) := by decide +kernel
theorem dL_stage_263 : decode cL_stage 263 = .ok (.aload_n 3, 1) := by decide +kernel
theorem dL_stage_264 : decode cL_stage 264 = .ok (.aload 4, 2) := by decide +kernel
theorem dL_stage_266 : decode cL_stage 266 = .ok (.aload 5, 2) := by decide +kernel
theorem dL_stage_268 : decode cL_stage 268 = .ok (.invokestatic 105, 3) := by decide +kernel
theorem dL_stage_271 : decode cL_stage 271 = .ok (.pop, 1) := by decide +kernel
theorem dL_stage_272 : decode cL_stage 272 = .ok (.aload_n 0, 1) := by decide +kernel
theorem dL_stage_273 : decode cL_stage 273 = .ok (.invokevirtual 134, 3) := by decide +kernel
theorem dL_stage_276 : decode cL_stage 276 = .ok (.iconst 4, 1) := by decide +kernel
theorem dL_stage_277 : decode cL_stage 277 = .ok (.if_icmp .ne 7, 3) := by decide +kernel
theorem dL_stage_280 : decode cL_stage 280 = .ok (.iconst 1, 1) := by decide +kernel
theorem dL_stage_281 : decode cL_stage 281 = .ok (.goto 4, 3) := by decide +kernel
theorem dL_stage_284 : decode cL_stage 284 = .ok (.iconst 0, 1) := by decide +kernel
theorem dL_stage_285 : decode cL_stage 285 = .ok (.ireturn, 1) := by decide +kernel
theorem dL_act_0 : decode cL_act 0 = .ok (.iload_n 1, 1) := by decide +kernel
theorem dL_act_1 : decode cL_act 1 = .ok (.bipush 6, 2) := by decide +kernel
theorem dL_act_3 : decode cL_act 3 = .ok (.if_icmp .ge 18, 3) := by decide +kernel
theorem dL_act_6 : decode cL_act 6 = .ok (.aload_n 0, 1) := by decide +kernel
theorem dL_act_7 : decode cL_act 7 = .ok (.iload_n 2, 1) := by decide +kernel
theorem dL_act_8 : decode cL_act 8 = .ok (.iload_n 3, 1) := by decide +kernel
theorem dL_act_9 : decode cL_act 9 = .ok (.aload 4, 2) := by decide +kernel
theorem dL_act_11 : decode cL_act 11 = .ok (.aload 5, 2) := by decide +kernel
theorem dL_act_13 : decode cL_act 13 = .ok (.aload 6, 2) := by decide +kernel
theorem dL_act_15 : decode cL_act 15 = .ok (.aload 7, 2) := by decide +kernel
theorem dL_act_17 : decode cL_act 17 = .ok (.invokestatic 137, 3) := by decide +kernel
theorem dL_act_20 : decode cL_act 20 = .ok (.ireturn, 1) := by decide +kernel
theorem dL_act_21 : decode cL_act 21 = .ok (.iload_n 1, 1) := by decide +kernel
theorem dL_act_22 : decode cL_act 22 = .ok (.bipush 6, 2) := by decide +kernel
theorem dL_act_24 : decode cL_act 24 = .ok (.if_icmp .ne 54, 3) := by decide +kernel
theorem dL_act_27 : decode cL_act 27 = .ok (.aload 4, 2) := by decide +kernel
theorem dL_act_29 : decode cL_act 29 = .ok (.iconst 1, 1) := by decide +kernel
theorem dL_act_30 : decode cL_act 30 = .ok (.iaload, 1) := by decide +kernel
theorem dL_act_31 : decode cL_act 31 = .ok (.istore 8, 2) := by decide +kernel
theorem dL_act_33 : decode cL_act 33 = .ok (.aload 4, 2) := by decide +kernel
theorem dL_act_35 : decode cL_act 35 = .ok (.iconst 1, 1) := by decide +kernel
theorem dL_act_36 : decode cL_act 36 = .ok (.bipush 10, 2) := by decide +kernel
theorem dL_act_38 : decode cL_act 38 = .ok (.iload_n 2, 1) := by decide +kernel
theorem dL_act_39 : decode cL_act 39 = .ok (.sipush 191, 3) := by decide +kernel
theorem dL_act_42 : decode cL_act 42 = .ok (.invokestatic 71, 3) := by decide +kernel
theorem dL_act_45 : decode cL_act 45 = .ok (.iadd, 1) := by decide +kernel
theorem dL_act_46 : decode cL_act 46 = .ok (.iastore, 1) := by decide +kernel
theorem dL_act_47 : decode cL_act 47 = .ok (.aload 4, 2) := by decide +kernel
theorem dL_act_49 : decode cL_act 49 = .ok (.aload 5, 2) := by decide +kernel
theorem dL_act_51 : decode cL_act 51 = .ok (.aload 6, 2) := by decide +kernel
theorem dL_act_53 : decode cL_act 53 = .ok (.aload 7, 2) := by decide +kernel
theorem dL_act_55 : decode cL_act 55 = .ok (.invokestatic 105, 3) := by decide +kernel
theorem dL_act_58 : decode cL_act 58 = .ok (.pop, 1) := by decide +kernel
theorem dL_act_59 : decode cL_act 59 = .ok (.aload_n 0, 1) := by decide +kernel
theorem dL_act_60 : decode cL_act 60 = .ok (.aload 4, 2) := by decide +kernel
theorem dL_act_62 : decode cL_act 62 = .ok (.iconst 1, 1) := by decide +kernel
theorem dL_act_63 : decode cL_act 63 = .ok (.iaload, 1) := by decide +kernel
theorem dL_act_64 : decode cL_act 64 = .ok (.invokevirtual 140, 3) := by decide +kernel
theorem dL_act_67 : decode cL_act 67 = .ok (.iload 8, 2) := by decide +kernel
theorem dL_act_69 : decode cL_act 69 = .ok (.if_icmp .ne 7, 3) := by decide +kernel
theorem dL_act_72 : decode cL_act 72 = .ok (.iconst 1, 1) := by decide +kernel
theorem dL_act_73 : decode cL_act 73 = .ok (.goto 4, 3) := by decide +kernel
theorem dL_act_76 : decode cL_act 76 = .ok (.iconst 0, 1) := by decide +kernel
theorem dL_act_77 : decode cL_act 77 = .ok (.ireturn, 1) := by decide +kernel
theorem dL_act_78 : decode cL_act 78 = .ok (.iload_n 1, 1) := by decide +kernel
theorem dL_act_79 : decode cL_act 79 = .ok (.bipush 7, 2) := by decide +kernel
theorem dL_act_81 : decode cL_act 81 = .ok (.if_icmp .ne 68, 3) := by decide +kernel
theorem dL_act_84 : decode cL_act 84 = .ok (.iload_n 2, 1) := by decide +kernel
theorem dL_act_85 : decode cL_act 85 = .ok (.iconst 4, 1) := by decide +kernel
theorem dL_act_86 : decode cL_act 86 = .ok (.invokestatic 71, 3) := by decide +kernel
theorem dL_act_89 : decode cL_act 89 = .ok (.ifCond .le 17, 3) := by decide +kernel
theorem dL_act_92 : decode cL_act 92 = .ok (.aload_n 0, 1) := by decide +kernel
theorem dL_act_93 : decode cL_act 93 = .ok (.iload_n 3, 1) := by decide +kernel
theorem dL_act_94 : decode cL_act 94 = .ok (.aload 4, 2) := by decide +kernel
theorem dL_act_96 : decode cL_act 96 = .ok (.aload 5, 2) := by decide +kernel
theorem dL_act_98 : decode cL_act 98 = .ok (.aload 6, 2) := by decide +kernel
theorem dL_act_100 : decode cL_act 100 = .ok (.aload 7, 2) := by decide +kernel
theorem dL_act_102 : decode cL_act 102 = .ok (.invokestatic 143, 3) := by decide +kernel
theorem dL_act_105 : decode cL_act 105 = .ok (.ireturn, 1) := by decide +kernel
theorem dL_act_106 : decode cL_act 106 = .ok (.aload 4, 2) := by decide +kernel
theorem dL_act_108 : decode cL_act 108 = .ok (.iconst 0, 1) := by decide +kernel
theorem dL_act_109 : decode cL_act 109 = .ok (.iaload, 1) := by decide +kernel
theorem dL_act_110 : decode cL_act 110 = .ok (.istore 8, 2) := by decide +kernel
theorem dL_act_112 : decode cL_act 112 = .ok (.aload 4, 2) := by decide +kernel
theorem dL_act_114 : decode cL_act 114 = .ok (.iconst 0, 1) := by decide +kernel
theorem dL_act_115 : decode cL_act 115 = .ok (.iconst 0, 1) := by decide +kernel
theorem dL_act_116 : decode cL_act 116 = .ok (.iastore, 1) := by decide +kernel
theorem dL_act_117 : decode cL_act 117 = .ok (.aload 4, 2) := by decide +kernel
theorem dL_act_119 : decode cL_act 119 = .ok (.iconst 1, 1) := by decide +kernel
theorem dL_act_120 : decode cL_act 120 = .ok (.sipush 150, 3) := by decide +kernel
theorem dL_act_123 : decode cL_act 123 = .ok (.iastore, 1) := by decide +kernel
theorem dL_act_124 : decode cL_act 124 = .ok (.aload 4, 2) := by decide +kernel
theorem dL_act_126 : decode cL_act 126 = .ok (.iconst 2, 1) := by decide +kernel
theorem dL_act_127 : decode cL_act 127 = .ok (.iconst 0, 1) := by decide +kernel
theorem dL_act_128 : decode cL_act 128 = .ok (.iastore, 1) := by decide +kernel
theorem dL_act_129 : decode cL_act 129 = .ok (.aload 4, 2) := by decide +kernel
theorem dL_act_131 : decode cL_act 131 = .ok (.iconst 3, 1) := by decide +kernel
theorem dL_act_132 : decode cL_act 132 = .ok (.iconst 1, 1) := by decide +kernel
theorem dL_act_133 : decode cL_act 133 = .ok (.iastore, 1) := by decide +kernel
theorem dL_act_134 : decode cL_act 134 = .ok (.aload_n 0, 1) := by decide +kernel
theorem dL_act_135 : decode cL_act 135 = .ok (.invokevirtual 147, 3) := by decide +kernel
theorem dL_act_138 : decode cL_act 138 = .ok (.iload 8, 2) := by decide +kernel
theorem dL_act_140 : decode cL_act 140 = .ok (.if_icmp .ne 7, 3) := by decide +kernel
theorem dL_act_143 : decode cL_act 143 = .ok (.iconst 1, 1) := by decide +kernel
theorem dL_act_144 : decode cL_act 144 = .ok (.goto 4, 3) := by decide +kernel
theorem dL_act_147 : decode cL_act 147 = .ok (.iconst 0, 1) := by decide +kernel
theorem dL_act_148 : decode cL_act 148 = .ok (.ireturn, 1) := by decide +kernel
theorem dL_act_149 : decode cL_act 149 = .ok (.aload 4, 2) := by decide +kernel
theorem dL_act_151 : decode cL_act 151 = .ok (.iconst 0, 1) := by decide +kernel
theorem dL_act_152 : decode cL_act 152 = .ok (.iaload, 1) := by decide +kernel
theorem dL_act_153 : decode cL_act 153 = .ok (.ifCond .ne 17, 3) := by decide +kernel
theorem dL_act_156 : decode cL_act 156 = .ok (.aload_n 0, 1) := by decide +kernel
theorem dL_act_157 : decode cL_act 157 = .ok (.iload_n 3, 1) := by decide +kernel
theorem dL_act_158 : decode cL_act 158 = .ok (.aload 4, 2) := by decide +kernel
theorem dL_act_160 : decode cL_act 160 = .ok (.aload 5, 2) := by decide +kernel
theorem dL_act_162 : decode cL_act 162 = .ok (.aload 6, 2) := by decide +kernel
theorem dL_act_164 : decode cL_act 164 = .ok (.aload 7, 2) := by decide +kernel
theorem dL_act_166 : decode cL_act 166 = .ok (.invokestatic 143, 3) := by decide +kernel
theorem dL_act_169 : decode cL_act 169 = .ok (.ireturn, 1) := by decide +kernel
theorem dL_act_170 : decode cL_act 170 = .ok (.iload_n 2, 1) := by decide +kernel
theorem dL_act_171 : decode cL_act 171 = .ok (.aload 4, 2) := by decide +kernel
theorem dL_act_173 : decode cL_act 173 = .ok (.iconst 0, 1) := by decide +kernel
theorem dL_act_174 : decode cL_act 174 = .ok (.iaload, 1) := by decide +kernel
theorem dL_act_175 : decode cL_act 175 = .ok (.invokestatic 71, 3) := by decide +kernel
theorem dL_act_178 : decode cL_act 178 = .ok (.istore 8, 2) := by decide +kernel
theorem dL_act_180 : decode cL_act 180 = .ok (.iload 8, 2) := by decide +kernel
theorem dL_act_182 : decode cL_act 182 = .ok (.aload 5, 2) := by decide +kernel
theorem dL_act_184 : decode cL_act 184 = .ok (.invokestatic 8, 3) := by decide +kernel
theorem dL_act_187 : decode cL_act 187 = .ok (.istore 9, 2) := by decide +kernel
theorem dL_act_189 : decode cL_act 189 = .ok (.iload_n 1, 1) := by decide +kernel
theorem dL_act_190 : decode cL_act 190 = .ok (.bipush 12, 2) := by decide +kernel
theorem dL_act_192 : decode cL_act 192 = .ok (.if_icmp .ge 201, 3) := by decide +kernel
theorem dL_act_195 : decode cL_act 195 = .ok (.iload 9, 2) := by decide +kernel
theorem dL_act_197 : decode cL_act 197 = .ok (.iconst 2, 1) := by decide +kernel
theorem dL_act_198 : decode cL_act 198 = .ok (.if_icmp .ne 5, 3) := by decide +kernel
theorem dL_act_201 : decode cL_act 201 = .ok (.iconst 1, 1) := by decide +kernel
theorem dL_act_202 : decode cL_act 202 = .ok (.ireturn, 1) := by decide +kernel
theorem dL_act_203 : decode cL_act 203 = .ok (.aload 5, 2) := by decide +kernel
theorem dL_act_205 : decode cL_act 205 = .ok (.iconst 4, 1) := by decide +kernel
theorem dL_act_206 : decode cL_act 206 = .ok (.iload 8, 2) := by decide +kernel
theorem dL_act_208 : decode cL_act 208 = .ok (.imul, 1) := by decide +kernel
theorem dL_act_209 : decode cL_act 209 = .ok (.iconst 3, 1) := by decide +kernel
theorem dL_act_210 : decode cL_act 210 = .ok (.iadd, 1) := by decide +kernel
theorem dL_act_211 : decode cL_act 211 = .ok (.iaload, 1) := by decide +kernel
theorem dL_act_212 : decode cL_act 212 = .ok (.istore 10, 2) := by decide +kernel
theorem dL_act_214 : decode cL_act 214 = .ok (.iload 9, 2) := by decide +kernel
theorem dL_act_216 : decode cL_act 216 = .ok (.ifCond .ne 13, 3) := by decide +kernel
theorem dL_act_219 : decode cL_act 219 = .ok (.iconst 1, 1) := by decide +kernel
theorem dL_act_220 : decode cL_act 220 = .ok (.iload_n 3, 1) := by decide +kernel
theorem dL_act_221 : decode cL_act 221 = .ok (.iconst 4, 1) := by decide +kernel
theorem dL_act_222 : decode cL_act 222 = .ok (.invokestatic 71, 3) := by decide +kernel
theorem dL_act_225 : decode cL_act 225 = .ok (.iadd, 1) := by decide +kernel
theorem dL_act_226 : decode cL_act 226 = .ok (.goto 14, 3) := by decide +kernel
theorem dL_act_229 : decode cL_act 229 = .ok (.iload_n 3, 1) := by decide +kernel
theorem dL_act_230 : decode cL_act 230 = .ok (.sipush 401, 3) := by decide +kernel
theorem dL_act_233 : decode cL_act 233 = .ok (.invokestatic 71, 3) := by decide +kernel
theorem dL_act_236 : decode cL_act 236 = .ok (.sipush 200, 3) := by decide +kernel
theorem dL_act_239 : decode cL_act 239 = .ok (.isub, 1) := by decide +kernel
theorem dL_act_240 : decode cL_act 240 = .ok (.istore 11, 2) := by decide +kernel
theorem dL_act_242 : decode cL_act 242 = .ok (.iload 9, 2) := by decide +kernel
theorem dL_act_244 : decode cL_act 244 = .ok (.ifCond .eq 9, 3) := by decide +kernel
theorem dL_act_247 : decode cL_act 247 = .ok (.iload_n 1, 1) := by decide +kernel
theorem dL_act_248 : decode cL_act 248 = .ok (.bipush 10, 2) := by decide +kernel
theorem dL_act_250 : decode cL_act 250 = .ok (.if_icmp .ge 45, 3) := by decide +kernel
theorem dL_act_253 : decode cL_act 253 = .ok (.aload 5, 2) := by decide +kernel
theorem dL_act_255 : decode cL_act 255 = .ok (.iconst 4, 1) := by decide +kernel
theorem dL_act_256 : decode cL_act 256 = .ok (.iload 8, 2) := by decide +kernel
theorem dL_act_258 : decode cL_act 258 = .ok (.imul, 1) := by decide +kernel
theorem dL_act_259 : decode cL_act 259 = .ok (.iconst 3, 1) := by decide +kernel
theorem dL_act_260 : decode cL_act 260 = .ok (.iadd, 1) := by decide +kernel
theorem dL_act_261 : decode cL_act 261 = .ok (.iload 11, 2) := by decide +kernel
theorem dL_act_263 : decode cL_act 263 = .ok (.iastore, 1) := by decide +kernel
theorem dL_act_264 : decode cL_act 264 = .ok (.aload 4, 2) := by decide +kernel
theorem dL_act_266 : decode cL_act 266 = .ok (.aload 5, 2) := by decide +kernel
theorem dL_act_268 : decode cL_act 268 = .ok (.aload 6, 2) := by decide +kernel
theorem dL_act_270 : decode cL_act 270 = .ok (.aload 7, 2) := by decide +kernel
theorem dL_act_272 : decode cL_act 272 = .ok (.invokestatic 105, 3) := by decide +kernel
theorem dL_act_275 : decode cL_act 275 = .ok (.pop, 1) := by decide +kernel
theorem dL_act_276 : decode cL_act 276 = .ok (.aload_n 0, 1) := by decide +kernel
theorem dL_act_277 : decode cL_act 277 = .ok (.iload 8, 2) := by decide +kernel
theorem dL_act_279 : decode cL_act 279 = .ok (.iload 11, 2) := by decide +kernel
theorem dL_act_281 : decode cL_act 281 = .ok (.invokevirtual 150, 3) := by decide +kernel
theorem dL_act_284 : decode cL_act 284 = .ok (.iload 10, 2) := by decide +kernel
theorem dL_act_286 : decode cL_act 286 = .ok (.if_icmp .ne 7, 3) := by decide +kernel
theorem dL_act_289 : decode cL_act 289 = .ok (.iconst 1, 1) := by decide +kernel
theorem dL_act_290 : decode cL_act 290 = .ok (.goto 4, 3) := by decide +kernel
theorem dL_act_293 : decode cL_act 293 = .ok (.iconst 0, 1) := by decide +kernel
theorem dL_act_294 : decode cL_act 294 = .ok (.ireturn, 1) := by decide +kernel
theorem dL_act_295 : decode cL_act 295 = .ok (.iconst 0, 1) := by decide +kernel
theorem dL_act_296 : decode cL_act 296 = .ok (.istore 12, 2) := by decide +kernel
theorem dL_act_298 : decode cL_act 298 = .ok (.aload 5, 2) := by decide +kernel
theorem dL_act_300 : decode cL_act 300 = .ok (.iconst 4, 1) := by decide +kernel
theorem dL_act_301 : decode cL_act 301 = .ok (.iload 8, 2) := by decide +kernel
theorem dL_act_303 : decode cL_act 303 = .ok (.imul, 1) := by decide +kernel
theorem dL_act_304 : decode cL_act 304 = .ok (.iconst 3, 1) := by decide +kernel
theorem dL_act_305 : decode cL_act 305 = .ok (.iadd, 1) := by decide +kernel
theorem dL_act_306 : decode cL_act 306 = .ok (.iaload, 1) := by decide +kernel
theorem dL_act_307 : decode cL_act 307 = .ok (.iload 11, 2) := by decide +kernel
theorem dL_act_309 : decode cL_act 309 = .ok (.if_icmp .eq 53, 3) := by decide +kernel
theorem dL_act_312 : decode cL_act 312 = .ok (.aload 5, 2) := by decide +kernel
theorem dL_act_314 : decode cL_act 314 = .ok (.iconst 4, 1) := by decide +kernel
theorem dL_act_315 : decode cL_act 315 = .ok (.iload 8, 2) := by decide +kernel
theorem dL_act_317 : decode cL_act 317 = .ok (.imul, 1) := by decide +kernel
theorem dL_act_318 : decode cL_act 318 = .ok (.iconst 3, 1) := by decide +kernel
theorem dL_act_319 : decode cL_act 319 = .ok (.iadd, 1) := by decide +kernel
theorem dL_act_320 : decode cL_act 320 = .ok (.dup2, 1) := by decide +kernel
theorem dL_act_321 : decode cL_act 321 = .ok (.iaload, 1) := by decide +kernel
theorem dL_act_322 : decode cL_act 322 = .ok (.aload 5, 2) := by decide +kernel
theorem dL_act_324 : decode cL_act 324 = .ok (.iconst 4, 1) := by decide +kernel
theorem dL_act_325 : decode cL_act 325 = .ok (.iload 8, 2) := by decide +kernel
theorem dL_act_327 : decode cL_act 327 = .ok (.imul, 1) := by decide +kernel
theorem dL_act_328 : decode cL_act 328 = .ok (.iconst 3, 1) := by decide +kernel
theorem dL_act_329 : decode cL_act 329 = .ok (.iadd, 1) := by decide +kernel
theorem dL_act_330 : decode cL_act 330 = .ok (.iaload, 1) := by decide +kernel
theorem dL_act_331 : decode cL_act 331 = .ok (.iload 11, 2) := by decide +kernel
theorem dL_act_333 : decode cL_act 333 = .ok (.if_icmp .ge 7, 3) := by decide +kernel
theorem dL_act_336 : decode cL_act 336 = .ok (.iconst 1, 1) := by decide +kernel
theorem dL_act_337 : decode cL_act 337 = .ok (.goto 4, 3) := by decide +kernel
theorem dL_act_340 : decode cL_act 340 = .ok (.iconst (-1), 1) := by decide +kernel
theorem dL_act_341 : decode cL_act 341 = .ok (.iadd, 1) := by decide +kernel
theorem dL_act_342 : decode cL_act 342 = .ok (.iastore, 1) := by decide +kernel
theorem dL_act_343 : decode cL_act 343 = .ok (.iload 12, 2) := by decide +kernel
theorem dL_act_345 : decode cL_act 345 = .ok (.aload 4, 2) := by decide +kernel
theorem dL_act_347 : decode cL_act 347 = .ok (.aload 5, 2) := by decide +kernel
theorem dL_act_349 : decode cL_act 349 = .ok (.aload 6, 2) := by decide +kernel
theorem dL_act_351 : decode cL_act 351 = .ok (.aload 7, 2) := by decide +kernel
theorem dL_act_353 : decode cL_act 353 = .ok (.invokestatic 105, 3) := by decide +kernel
theorem dL_act_356 : decode cL_act 356 = .ok (.iadd, 1) := by decide +kernel
theorem dL_act_357 : decode cL_act 357 = .ok (.istore 12, 2) := by decide +kernel
theorem dL_act_359 : decode cL_act 359 = .ok (.goto (-61), 3) := by decide +kernel
theorem dL_act_362 : decode cL_act 362 = .ok (.aload 4, 2) := by decide +kernel
theorem dL_act_364 : decode cL_act 364 = .ok (.aload 5, 2) := by decide +kernel
theorem dL_act_366 : decode cL_act 366 = .ok (.aload 6, 2) := by decide +kernel
theorem dL_act_368 : decode cL_act 368 = .ok (.aload 7, 2) := by decide +kernel
theorem dL_act_370 : decode cL_act 370 = .ok (.invokestatic 105, 3) := by decide +kernel
theorem dL_act_373 : decode cL_act 373 = .ok (.pop, 1) := by decide +kernel
theorem dL_act_374 : decode cL_act 374 = .ok (.aload_n 0, 1) := by decide +kernel
theorem dL_act_375 : decode cL_act 375 = .ok (.iload 8, 2) := by decide +kernel
theorem dL_act_377 : decode cL_act 377 = .ok (.iload 11, 2) := by decide +kernel
theorem dL_act_379 : decode cL_act 379 = .ok (.invokevirtual 153, 3) := by decide +kernel
theorem dL_act_382 : decode cL_act 382 = .ok (.iload 12, 2) := by decide +kernel
theorem dL_act_384 : decode cL_act 384 = .ok (.if_icmp .ne 7, 3) := by decide +kernel
theorem dL_act_387 : decode cL_act 387 = .ok (.iconst 1, 1) := by decide +kernel
theorem dL_act_388 : decode cL_act 388 = .ok (.goto 4, 3) := by decide +kernel
theorem dL_act_391 : decode cL_act 391 = .ok (.iconst 0, 1) := by decide +kernel
theorem dL_act_392 : decode cL_act 392 = .ok (.ireturn, 1) := by decide +kernel
theorem dL_act_393 : decode cL_act 393 = .ok (.iload 9, 2) := by decide +kernel
theorem dL_act_395 : decode cL_act 395 = .ok (.iconst 2, 1) := by decide +kernel
theorem dL_act_396 : decode cL_act 396 = .ok (.if_icmp .ne 45, 3) := by decide +kernel
theorem dL_act_399 : decode cL_act 399 = .ok (.iload 8, 2) := by decide +kernel
theorem dL_act_401 : decode cL_act 401 = .ok (.aload 5, 2) := by decide +kernel
theorem dL_act_403 : decode cL_act 403 = .ok (.invokestatic 18, 3) := by decide +kernel
theorem dL_act_406 : decode cL_act 406 = .ok (.istore 10, 2) := by decide +kernel
theorem dL_act_408 : decode cL_act 408 = .ok (.aload 4, 2) := by decide +kernel
theorem dL_act_410 : decode cL_act 410 = .ok (.iconst 2, 1) := by decide +kernel
theorem dL_act_411 : decode cL_act 411 = .ok (.aload 4, 2) := by decide +kernel
theorem dL_act_413 : decode cL_act 413 = .ok (.iconst 2, 1) := by decide +kernel
theorem dL_act_414 : decode cL_act 414 = .ok (.iaload, 1) := by decide +kernel
theorem dL_act_415 : decode cL_act 415 = .ok (.iload 10, 2) := by decide +kernel
theorem dL_act_417 : decode cL_act 417 = .ok (.invokestatic 21, 3) := by decide +kernel
theorem dL_act_420 : decode cL_act 420 = .ok (.irem, 1) := by decide +kernel
theorem dL_act_421 : decode cL_act 421 = .ok (.aload 4, 2) := by decide +kernel
theorem dL_act_423 : decode cL_act 423 = .ok (.iconst 2, 1) := by decide +kernel
theorem dL_act_424 : decode cL_act 424 = .ok (.iaload, 1) := by decide +kernel
theorem dL_act_425 : decode cL_act 425 = .ok (.iload 10, 2) := by decide +kernel
theorem dL_act_427 : decode cL_act 427 = .ok (.iconst 1, 1) := by decide +kernel
theorem dL_act_428 : decode cL_act 428 = .ok (.iadd, 1) := by decide +kernel
theorem dL_act_429 : decode cL_act 429 = .ok (.invokestatic 21, 3) := by decide +kernel
theorem dL_act_432 : decode cL_act 432 = .ok (.idiv, 1) := by decide +kernel
theorem dL_act_433 : decode cL_act 433 = .ok (.iload 10, 2) := by decide +kernel
theorem dL_act_435 : decode cL_act 435 = .ok (.invokestatic 21, 3) := by decide +kernel
theorem dL_act_438 : decode cL_act 438 = .ok (.imul, 1) := by decide +kernel
theorem dL_act_439 : decode cL_act 439 = .ok (.iadd, 1) := by decide +kernel
theorem dL_act_440 : decode cL_act 440 = .ok (.iastore, 1) := by decide +kernel
theorem dL_act_441 : decode cL_act 441 = .ok (.aload 4, 2) := by decide +kernel
theorem dL_act_443 : decode cL_act 443 = .ok (.iconst 0, 1) := by decide +kernel
theorem dL_act_444 : decode cL_act 444 = .ok (.dup2, 1) := by decide +kernel
theorem dL_act_445 : decode cL_act 445 = .ok (.iaload, 1) := by decide +kernel
theorem dL_act_446 : decode cL_act 446 = .ok (.iconst 1, 1) := by decide +kernel
theorem dL_act_447 : decode cL_act 447 = .ok (.isub, 1) := by decide +kernel
theorem dL_act_448 : decode cL_act 448 = .ok (.iastore, 1) := by decide +kernel
theorem dL_act_449 : decode cL_act 449 = .ok (.iconst 4, 1) := by decide +kernel
theorem dL_act_450 : decode cL_act 450 = .ok (.iload 8, 2) := by decide +kernel
theorem dL_act_452 : decode cL_act 452 = .ok (.imul, 1) := by decide +kernel
theorem dL_act_453 : decode cL_act 453 = .ok (.istore 10, 2) := by decide +kernel
theorem dL_act_455 : decode cL_act 455 = .ok (.iload 10, 2) := by decide +kernel
theorem dL_act_457 : decode cL_act 457 = .ok (.iconst 4, 1) := by decide +kernel
theorem dL_act_458 : decode cL_act 458 = .ok (.aload 4, 2) := by decide +kernel
theorem dL_act_460 : decode cL_act 460 = .ok (.iconst 0, 1) := by decide +kernel
theorem dL_act_461 : decode cL_act 461 = .ok (.iaload, 1) := by decide +kernel
theorem dL_act_462 : decode cL_act 462 = .ok (.imul, 1) := by decide +kernel
theorem dL_act_463 : decode cL_act 463 = .ok (.if_icmp .ge 21, 3) := by decide +kernel
theorem dL_act_466 : decode cL_act 466 = .ok (.aload 5, 2) := by decide +kernel
theorem dL_act_468 : decode cL_act 468 = .ok (.iload 10, 2) := by decide +kernel
theorem dL_act_470 : decode cL_act 470 = .ok (.aload 5, 2) := by decide +kernel
theorem dL_act_472 : decode cL_act 472 = .ok (.iload 10, 2) := by decide +kernel
theorem dL_act_474 : decode cL_act 474 = .ok (.iconst 4, 1) := by decide +kernel
theorem dL_act_475 : decode cL_act 475 = .ok (.iadd, 1) := by decide +kernel
theorem dL_act_476 : decode cL_act 476 = .ok (.iaload, 1) := by decide +kernel
theorem dL_act_477 : decode cL_act 477 = .ok (.iastore, 1) := by decide +kernel
theorem dL_act_478 : decode cL_act 478 = .ok (.iinc 10 1, 3) := by decide +kernel
theorem dL_act_481 : decode cL_act 481 = .ok (.goto (-26), 3) := by decide +kernel
theorem dL_act_484 : decode cL_act 484 = .ok (.aload 4, 2) := by decide +kernel
theorem dL_act_486 : decode cL_act 486 = .ok (.aload 5, 2) := by decide +kernel
theorem dL_act_488 : decode cL_act 488 = .ok (.aload 6, 2) := by decide +kernel
theorem dL_act_490 : decode cL_act 490 = .ok (.aload 7, 2) := by decide +kernel
theorem dL_act_492 : decode cL_act 492 = .ok (.invokestatic 105, 3) := by decide +kernel
theorem dL_act_495 : decode cL_act 495 = .ok (.pop, 1) := by decide +kernel
theorem dL_act_496 : decode cL_act 496 = .ok (.aload_n 0, 1) := by decide +kernel
theorem dL_act_497 : decode cL_act 497 = .ok (.iload 8, 2) := by decide +kernel
theorem dL_act_499 : decode cL_act 499 = .ok (.invokevirtual 156, 3) := by decide +kernel
theorem dL_act_502 : decode cL_act 502 = .ok (.aload 4, 2) := by decide +kernel
theorem dL_act_504 : decode cL_act 504 = .ok (.iconst 0, 1) := by decide +kernel
theorem dL_act_505 : decode cL_act 505 = .ok (.iaload, 1) := by decide +kernel
theorem dL_act_506 : decode cL_act 506 = .ok (.if_icmp .ne 7, 3) := by decide +kernel
theorem dL_act_509 : decode cL_act 509 = .ok (.iconst 1, 1) := by decide +kernel
theorem dL_act_510 : decode cL_act 510 = .ok (.goto 4, 3) := by decide +kernel
theorem dL_act_513 : decode cL_act 513 = .ok (.iconst 0, 1) := by decide +kernel
theorem dL_act_514 : decode cL_act 514 = .ok (.ireturn, 1) := by decide +kernel
theorem dL_law_0 : decode cL_law 0 = .ok (.new 65, 3) := by decide +kernel
theorem dL_law_3 : decode cL_law 3 = .ok (.dup, 1) := by decide +kernel
theorem dL_law_4 : decode cL_law 4 = .ok (.invokespecial 159, 3) := by decide +kernel
theorem dL_law_7 : decode cL_law 7 = .ok (.astore_n 1, 1) := by decide +kernel
theorem dL_law_8 : decode cL_law 8 = .ok (.iconst 4, 1) := by decide +kernel
theorem dL_law_9 : decode cL_law 9 = .ok (.newarray .int, 2) := by decide +kernel
theorem dL_law_11 : decode cL_law 11 = .ok (.astore_n 2, 1) := by decide +kernel
theorem dL_law_12 : decode cL_law 12 = .ok (.bipush 48, 2) := by decide +kernel
theorem dL_law_14 : decode cL_law 14 = .ok (.newarray .int, 2) := by decide +kernel
theorem dL_law_16 : decode cL_law 16 = .ok (.astore_n 3, 1) := by decide +kernel
theorem dL_law_17 : decode cL_law 17 = .ok (.iconst 4, 1) := by decide +kernel
theorem dL_law_18 : decode cL_law 18 = .ok (.newarray .int, 2) := by decide +kernel
theorem dL_law_20 : decode cL_law 20 = .ok (.astore 4, 2) := by decide +kernel
theorem dL_law_22 : decode cL_law 22 = .ok (.bipush 48, 2) := by decide +kernel
theorem dL_law_24 : decode cL_law 24 = .ok (.newarray .int, 2) := by decide +kernel
theorem dL_law_26 : decode cL_law 26 = .ok (.astore 5, 2) := by decide +kernel
theorem dL_law_28 : decode cL_law 28 = .ok (.bipush 56, 2) := by decide +kernel
theorem dL_law_30 : decode cL_law 30 = .ok (.newarray .long, 2) := by decide +kernel
theorem dL_law_32 : decode cL_law 32 = .ok (.astore 6, 2) := by decide +kernel
theorem dL_law_34 : decode cL_law 34 = .ok (.bipush 56, 2) := by decide +kernel
theorem dL_law_36 : decode cL_law 36 = .ok (.newarray .long, 2) := by decide +kernel
theorem dL_law_38 : decode cL_law 38 = .ok (.astore 7, 2) := by decide +kernel
theorem dL_law_40 : decode cL_law 40 = .ok (.aload_n 2, 1) := by decide +kernel
theorem dL_law_41 : decode cL_law 41 = .ok (.iconst 1, 1) := by decide +kernel
theorem dL_law_42 : decode cL_law 42 = .ok (.sipush 150, 3) := by decide +kernel
theorem dL_law_45 : decode cL_law 45 = .ok (.iastore, 1) := by decide +kernel
theorem dL_law_46 : decode cL_law 46 = .ok (.aload_n 2, 1) := by decide +kernel
theorem dL_law_47 : decode cL_law 47 = .ok (.iconst 3, 1) := by decide +kernel
theorem dL_law_48 : decode cL_law 48 = .ok (.iconst 1, 1) := by decide +kernel
theorem dL_law_49 : decode cL_law 49 = .ok (.iastore, 1) := by decide +kernel
theorem dL_law_50 : decode cL_law 50 = .ok (.aload_n 1, 1) := by decide +kernel
theorem dL_law_51 : decode cL_law 51 = .ok (.iconst 0, 1) := by decide +kernel
theorem dL_law_52 : decode cL_law 52 = .ok (.aload_n 2, 1) := by decide +kernel
theorem dL_law_53 : decode cL_law 53 = .ok (.aload_n 3, 1) := by decide +kernel
theorem dL_law_54 : decode cL_law 54 = .ok (.invokestatic 160, 3) := by decide +kernel
theorem dL_law_57 : decode cL_law 57 = .ok (.ifCond .eq 33, 3) := by decide +kernel
theorem dL_law_60 : decode cL_law 60 = .ok (.aload_n 1, 1) := by decide +kernel
theorem dL_law_61 : decode cL_law 61 = .ok (.bipush 8, 2) := by decide +kernel
theorem dL_law_63 : decode cL_law 63 = .ok (.invokevirtual 91, 3) := by decide +kernel
theorem dL_law_66 : decode cL_law 66 = .ok (.ifCond .ne 24, 3) := by decide +kernel
theorem dL_law_69 : decode cL_law 69 = .ok (.aload_n 1, 1) := by decide +kernel
theorem dL_law_70 : decode cL_law 70 = .ok (.aload_n 0, 1) := by decide +kernel
theorem dL_law_71 : decode cL_law 71 = .ok (.iconst 0, 1) := by decide +kernel
theorem dL_law_72 : decode cL_law 72 = .ok (.invokestatic 164, 3) := by decide +kernel
theorem dL_law_75 : decode cL_law 75 = .ok (.ldc 168, 2) := by decide +kernel
theorem dL_law_77 : decode cL_law 77 = .ok (.iand, 1) := by decide +kernel
theorem dL_law_78 : decode cL_law 78 = .ok (.aload_n 2, 1) := by decide +kernel
theorem dL_law_79 : decode cL_law 79 = .ok (.aload_n 3, 1) := by decide +kernel
theorem dL_law_80 : decode cL_law 80 = .ok (.aload 6, 2) := by decide +kernel
theorem dL_law_82 : decode cL_law 82 = .ok (.aload 7, 2) := by decide +kernel
theorem dL_law_84 : decode cL_law 84 = .ok (.invokestatic 143, 3) := by decide +kernel
theorem dL_law_87 : decode cL_law 87 = .ok (.ifCond .ne 5, 3) := by decide +kernel
theorem dL_law_90 : decode cL_law 90 = .ok (.iconst 0, 1) := by decide +kernel
theorem dL_law_91 : decode cL_law 91 = .ok (.ireturn, 1) := by decide +kernel
theorem dL_law_92 : decode cL_law 92 = .ok (.iconst 1, 1) := by decide +kernel
theorem dL_law_93 : decode cL_law 93 = .ok (.istore 8, 2) := by decide +kernel
theorem dL_law_95 : decode cL_law 95 = .ok (.iload 8, 2) := by decide +kernel
theorem dL_law_97 : decode cL_law 97 = .ok (.bipush 14, 2) := by decide +kernel
theorem dL_law_99 : decode cL_law 99 = .ok (.if_icmp .ge 266, 3) := by decide +kernel
theorem dL_law_102 : decode cL_law 102 = .ok (.aload_n 0, 1) := by decide +kernel
theorem dL_law_103 : decode cL_law 103 = .ok (.iconst 2, 1) := by decide +kernel
theorem dL_law_104 : decode cL_law 104 = .ok (.iload 8, 2) := by decide +kernel
theorem dL_law_106 : decode cL_law 106 = .ok (.imul, 1) := by decide +kernel
theorem dL_law_107 : decode cL_law 107 = .ok (.invokestatic 164, 3) := by decide +kernel
theorem dL_law_110 : decode cL_law 110 = .ok (.ldc 168, 2) := by decide +kernel
theorem dL_law_112 : decode cL_law 112 = .ok (.iand, 1) := by decide +kernel
theorem dL_law_113 : decode cL_law 113 = .ok (.istore 9, 2) := by decide +kernel
theorem dL_law_115 : decode cL_law 115 = .ok (.aload_n 0, 1) := by decide +kernel
theorem dL_law_116 : decode cL_law 116 = .ok (.iconst 2, 1) := by decide +kernel
theorem dL_law_117 : decode cL_law 117 = .ok (.iload 8, 2) := by decide +kernel
theorem dL_law_119 : decode cL_law 119 = .ok (.imul, 1) := by decide +kernel
theorem dL_law_120 : decode cL_law 120 = .ok (.iconst 1, 1) := by decide +kernel
theorem dL_law_121 : decode cL_law 121 = .ok (.iadd, 1) := by decide +kernel
theorem dL_law_122 : decode cL_law 122 = .ok (.invokestatic 164, 3) := by decide +kernel
theorem dL_law_125 : decode cL_law 125 = .ok (.ldc 168, 2) := by decide +kernel
theorem dL_law_127 : decode cL_law 127 = .ok (.iand, 1) := by decide +kernel
theorem dL_law_128 : decode cL_law 128 = .ok (.istore 10, 2) := by decide +kernel
theorem dL_law_130 : decode cL_law 130 = .ok (.aload_n 1, 1) := by decide +kernel
theorem dL_law_131 : decode cL_law 131 = .ok (.bipush 8, 2) := by decide +kernel
theorem dL_law_133 : decode cL_law 133 = .ok (.invokevirtual 91, 3) := by decide +kernel
theorem dL_law_136 : decode cL_law 136 = .ok (.istore 11, 2) := by decide +kernel
theorem dL_law_138 : decode cL_law 138 = .ok (.iconst 0, 1) := by decide +kernel
theorem dL_law_139 : decode cL_law 139 = .ok (.istore 12, 2) := by decide +kernel
theorem dL_law_141 : decode cL_law 141 = .ok (.iload 12, 2) := by decide +kernel
theorem dL_law_143 : decode cL_law 143 = .ok (.iconst 4, 1) := by decide +kernel
theorem dL_law_144 : decode cL_law 144 = .ok (.if_icmp .ge 18, 3) := by decide +kernel
theorem dL_law_147 : decode cL_law 147 = .ok (.aload 4, 2) := by decide +kernel
theorem dL_law_149 : decode cL_law 149 = .ok (.iload 12, 2) := by decide +kernel
theorem dL_law_151 : decode cL_law 151 = .ok (.aload_n 2, 1) := by decide +kernel
theorem dL_law_152 : decode cL_law 152 = .ok (.iload 12, 2) := by decide +kernel
theorem dL_law_154 : decode cL_law 154 = .ok (.iaload, 1) := by decide +kernel
theorem dL_law_155 : decode cL_law 155 = .ok (.iastore, 1) := by decide +kernel
theorem dL_law_156 : decode cL_law 156 = .ok (.iinc 12 1, 3) := by decide +kernel
theorem dL_law_159 : decode cL_law 159 = .ok (.goto (-18), 3) := by decide +kernel
theorem dL_law_162 : decode cL_law 162 = .ok (.iconst 0, 1) := by decide +kernel
theorem dL_law_163 : decode cL_law 163 = .ok (.istore 12, 2) := by decide +kernel
theorem dL_law_165 : decode cL_law 165 = .ok (.iload 12, 2) := by decide +kernel
theorem dL_law_167 : decode cL_law 167 = .ok (.bipush 48, 2) := by decide +kernel
theorem dL_law_169 : decode cL_law 169 = .ok (.if_icmp .ge 18, 3) := by decide +kernel
theorem dL_law_172 : decode cL_law 172 = .ok (.aload 5, 2) := by decide +kernel
theorem dL_law_174 : decode cL_law 174 = .ok (.iload 12, 2) := by decide +kernel
theorem dL_law_176 : decode cL_law 176 = .ok (.aload_n 3, 1) := by decide +kernel
theorem dL_law_177 : decode cL_law 177 = .ok (.iload 12, 2) := by decide +kernel
theorem dL_law_179 : decode cL_law 179 = .ok (.iaload, 1) := by decide +kernel
theorem dL_law_180 : decode cL_law 180 = .ok (.iastore, 1) := by decide +kernel
theorem dL_law_181 : decode cL_law 181 = .ok (.iinc 12 1, 3) := by decide +kernel
theorem dL_law_184 : decode cL_law 184 = .ok (.goto (-19), 3) := by decide +kernel
theorem dL_law_187 : decode cL_law 187 = .ok (.aload_n 1, 1) := by decide +kernel
theorem dL_law_188 : decode cL_law 188 = .ok (.iload 9, 2) := by decide +kernel
theorem dL_law_190 : decode cL_law 190 = .ok (.bipush 13, 2) := by decide +kernel
theorem dL_law_192 : decode cL_law 192 = .ok (.ishr, 1) := by decide +kernel
theorem dL_law_193 : decode cL_law 193 = .ok (.bipush 14, 2) := by decide +kernel
theorem dL_law_195 : decode cL_law 195 = .ok (.invokestatic 71, 3) := by decide +kernel
theorem dL_law_198 : decode cL_law 198 = .ok (.iload 9, 2) := by decide +kernel
theorem dL_law_200 : decode cL_law 200 = .ok (.iload 10, 2) := by decide +kernel
theorem dL_law_202 : decode cL_law 202 = .ok (.aload_n 2, 1) := by decide +kernel
theorem dL_law_203 : decode cL_law 203 = .ok (.aload_n 3, 1) := by decide +kernel
theorem dL_law_204 : decode cL_law 204 = .ok (.aload 6, 2) := by decide +kernel
theorem dL_law_206 : decode cL_law 206 = .ok (.aload 7, 2) := by decide +kernel
theorem dL_law_208 : decode cL_law 208 = .ok (.invokestatic 169, 3) := by decide +kernel
theorem dL_law_211 : decode cL_law 211 = .ok (.ifCond .eq 16, 3) := by decide +kernel
theorem dL_law_214 : decode cL_law 214 = .ok (.aload_n 1, 1) := by decide +kernel
theorem dL_law_215 : decode cL_law 215 = .ok (.iload 10, 2) := by decide +kernel
theorem dL_law_217 : decode cL_law 217 = .ok (.iconst 2, 1) := by decide +kernel
theorem dL_law_218 : decode cL_law 218 = .ok (.ishr, 1) := by decide +kernel
theorem dL_law_219 : decode cL_law 219 = .ok (.aload_n 2, 1) := by decide +kernel
theorem dL_law_220 : decode cL_law 220 = .ok (.aload_n 3, 1) := by decide +kernel
theorem dL_law_221 : decode cL_law 221 = .ok (.invokestatic 160, 3) := by decide +kernel
theorem dL_law_224 : decode cL_law 224 = .ok (.ifCond .ne 5, 3) := by decide +kernel
theorem dL_law_227 : decode cL_law 227 = .ok (.iconst 0, 1) := by decide +kernel
theorem dL_law_228 : decode cL_law 228 = .ok (.ireturn, 1) := by decide +kernel
theorem dL_law_229 : decode cL_law 229 = .ok (.iload 11, 2) := by decide +kernel
theorem dL_law_231 : decode cL_law 231 = .ok (.bipush 8, 2) := by decide +kernel
theorem dL_law_233 : decode cL_law 233 = .ok (.if_icmp .ge 103, 3) := by decide +kernel
theorem dL_law_236 : decode cL_law 236 = .ok (.aload_n 1, 1) := by decide +kernel
theorem dL_law_237 : decode cL_law 237 = .ok (.bipush 8, 2) := by decide +kernel
theorem dL_law_239 : decode cL_law 239 = .ok (.invokevirtual 91, 3) := by decide +kernel
theorem dL_law_242 : decode cL_law 242 = .ok (.iload 11, 2) := by decide +kernel
theorem dL_law_244 : decode cL_law 244 = .ok (.iconst 1, 1) := by decide +kernel
theorem dL_law_245 : decode cL_law 245 = .ok (.iadd, 1) := by decide +kernel
theorem dL_law_246 : decode cL_law 246 = .ok (.if_icmp .ne 90, 3) := by decide +kernel
theorem dL_law_249 : decode cL_law 249 = .ok (.iload 10, 2) := by decide +kernel
theorem dL_law_251 : decode cL_law 251 = .ok (.bipush 12, 2) := by decide +kernel
theorem dL_law_253 : decode cL_law 253 = .ok (.ishr, 1) := by decide +kernel
theorem dL_law_254 : decode cL_law 254 = .ok (.iconst 4, 1) := by decide +kernel
theorem dL_law_255 : decode cL_law 255 = .ok (.invokestatic 71, 3) := by decide +kernel
theorem dL_law_258 : decode cL_law 258 = .ok (.ifCond .ne 78, 3) := by decide +kernel
theorem dL_law_261 : decode cL_law 261 = .ok (.aload_n 1, 1) := by decide +kernel
theorem dL_law_262 : decode cL_law 262 = .ok (.invokevirtual 173, 3) := by decide +kernel
theorem dL_law_265 : decode cL_law 265 = .ok (.iload 11, 2) := by decide +kernel
theorem dL_law_267 : decode cL_law 267 = .ok (.if_icmp .eq 5, 3) := by decide +kernel
theorem dL_law_270 : decode cL_law 270 = .ok (.iconst 0, 1) := by decide +kernel
theorem dL_law_271 : decode cL_law 271 = .ok (.ireturn, 1) := by decide +kernel
theorem dL_law_272 : decode cL_law 272 = .ok (.iconst 0, 1) := by decide +kernel
theorem dL_law_273 : decode cL_law 273 = .ok (.istore 12, 2) := by decide +kernel
theorem dL_law_275 : decode cL_law 275 = .ok (.iload 12, 2) := by decide +kernel
theorem dL_law_277 : decode cL_law 277 = .ok (.iconst 4, 1) := by decide +kernel
theorem dL_law_278 : decode cL_law 278 = .ok (.if_icmp .ge 18, 3) := by decide +kernel
theorem dL_law_281 : decode cL_law 281 = .ok (.aload_n 2, 1) := by decide +kernel
theorem dL_law_282 : decode cL_law 282 = .ok (.iload 12, 2) := by decide +kernel
theorem dL_law_284 : decode cL_law 284 = .ok (.aload 4, 2) := by decide +kernel
theorem dL_law_286 : decode cL_law 286 = .ok (.iload 12, 2) := by decide +kernel
theorem dL_law_288 : decode cL_law 288 = .ok (.iaload, 1) := by decide +kernel
theorem dL_law_289 : decode cL_law 289 = .ok (.iastore, 1) := by decide +kernel
theorem dL_law_290 : decode cL_law 290 = .ok (.iinc 12 1, 3) := by decide +kernel
theorem dL_law_293 : decode cL_law 293 = .ok (.goto (-18), 3) := by decide +kernel
theorem dL_law_296 : decode cL_law 296 = .ok (.iconst 0, 1) := by decide +kernel
theorem dL_law_297 : decode cL_law 297 = .ok (.istore 12, 2) := by decide +kernel
theorem dL_law_299 : decode cL_law 299 = .ok (.iload 12, 2) := by decide +kernel
theorem dL_law_301 : decode cL_law 301 = .ok (.bipush 48, 2) := by decide +kernel
theorem dL_law_303 : decode cL_law 303 = .ok (.if_icmp .ge 18, 3) := by decide +kernel
theorem dL_law_306 : decode cL_law 306 = .ok (.aload_n 3, 1) := by decide +kernel
theorem dL_law_307 : decode cL_law 307 = .ok (.iload 12, 2) := by decide +kernel
theorem dL_law_309 : decode cL_law 309 = .ok (.aload 5, 2) := by decide +kernel
theorem dL_law_311 : decode cL_law 311 = .ok (.iload 12, 2) := by decide +kernel
theorem dL_law_313 : decode cL_law 313 = .ok (.iaload, 1) := by decide +kernel
theorem dL_law_314 : decode cL_law 314 = .ok (.iastore, 1) := by decide +kernel
theorem dL_law_315 : decode cL_law 315 = .ok (.iinc 12 1, 3) := by decide +kernel
theorem dL_law_318 : decode cL_law 318 = .ok (.goto (-19), 3) := by decide +kernel
theorem dL_law_321 : decode cL_law 321 = .ok (.aload_n 1, 1) := by decide +kernel
theorem dL_law_322 : decode cL_law 322 = .ok (.iload 10, 2) := by decide +kernel
theorem dL_law_324 : decode cL_law 324 = .ok (.iconst 3, 1) := by decide +kernel
theorem dL_law_325 : decode cL_law 325 = .ok (.ishr, 1) := by decide +kernel
theorem dL_law_326 : decode cL_law 326 = .ok (.aload_n 2, 1) := by decide +kernel
theorem dL_law_327 : decode cL_law 327 = .ok (.aload_n 3, 1) := by decide +kernel
theorem dL_law_328 : decode cL_law 328 = .ok (.invokestatic 160, 3) := by decide +kernel
theorem dL_law_331 : decode cL_law 331 = .ok (.ifCond .ne 5, 3) := by decide +kernel
theorem dL_law_334 : decode cL_law 334 = .ok (.iconst 0, 1) := by decide +kernel
theorem dL_law_335 : decode cL_law 335 = .ok (.ireturn, 1) := by decide +kernel
theorem dL_law_336 : decode cL_law 336 = .ok (.iload 8, 2) := by decide +kernel
theorem dL_law_338 : decode cL_law 338 = .ok (.iconst 3, 1) := by decide +kernel
theorem dL_law_339 : decode cL_law 339 = .ok (.irem, 1) := by decide +kernel
theorem dL_law_340 : decode cL_law 340 = .ok (.iconst 2, 1) := by decide +kernel
theorem dL_law_341 : decode cL_law 341 = .ok (.if_icmp .ne 18, 3) := by decide +kernel
theorem dL_law_344 : decode cL_law 344 = .ok (.aload_n 1, 1) := by decide +kernel
theorem dL_law_345 : decode cL_law 345 = .ok (.iload 10, 2) := by decide +kernel
theorem dL_law_347 : decode cL_law 347 = .ok (.iconst 2, 1) := by decide +kernel
theorem dL_law_348 : decode cL_law 348 = .ok (.ishr, 1) := by decide +kernel
theorem dL_law_349 : decode cL_law 349 = .ok (.aload_n 2, 1) := by decide +kernel
theorem dL_law_350 : decode cL_law 350 = .ok (.aload_n 3, 1) := by decide +kernel
theorem dL_law_351 : decode cL_law 351 = .ok (.invokestatic 176, 3) := by decide +kernel
theorem dL_law_354 : decode cL_law 354 = .ok (.ifCond .ne 5, 3) := by decide +kernel
theorem dL_law_357 : decode cL_law 357 = .ok (.iconst 0, 1) := by decide +kernel
theorem dL_law_358 : decode cL_law 358 = .ok (.ireturn, 1) := by decide +kernel
theorem dL_law_359 : decode cL_law 359 = .ok (.iinc 8 1, 3) := by decide +kernel
theorem dL_law_362 : decode cL_law 362 = .ok (.goto (-267), 3) := by decide +kernel
theorem dL_law_365 : decode cL_law 365 = .ok (.iconst 1, 1) := by decide +kernel
theorem dL_law_366 : decode cL_law 366 = .ok (.ireturn, 1) := by decide +kernel
