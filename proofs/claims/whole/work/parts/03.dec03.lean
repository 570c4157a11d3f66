theorem dX7_canBe_76 : decode cX7_canBe 76 = .ok (.iload_n 3, 1) := by decide +kernel
theorem dX7_canBe_77 : decode cX7_canBe 77 = .ok (.if_icmp .eq 14, 3) := by decide +kernel
theorem dX7_canBe_80 : decode cX7_canBe 80 = .ok (.iload 5, 2) := by decide +kernel
theorem dX7_canBe_82 : decode cX7_canBe 82 = .ok (.iload 4, 2) := by decide +kernel
theorem dX7_canBe_84 : decode cX7_canBe 84 = .ok (.if_icmp .eq 7, 3) := by decide +kernel
theorem dX7_canBe_87 : decode cX7_canBe 87 = .ok (.iconst 1, 1) := by decide +kernel
theorem dX7_canBe_88 : decode cX7_canBe 88 = .ok (.goto 4, 3) := by decide +kernel
theorem dX7_canBe_91 : decode cX7_canBe 91 = .ok (.iconst 0, 1) := by decide +kernel
theorem dX7_canBe_92 : decode cX7_canBe 92 = .ok (.ireturn, 1) := by decide +kernel
theorem dX7_fits_0 : decode cX7_fits 0 = .ok (.aload_n 0, 1) := by decide +kernel
theorem dX7_fits_1 : decode cX7_fits 1 = .ok (.getfield 7, 3) := by decide +kernel
theorem dX7_fits_4 : decode cX7_fits 4 = .ok (.bipush 48, 2) := by decide +kernel
theorem dX7_fits_6 : decode cX7_fits 6 = .ok (.iaload, 1) := by decide +kernel
theorem dX7_fits_7 : decode cX7_fits 7 = .ok (.aload_n 0, 1) := by decide +kernel
theorem dX7_fits_8 : decode cX7_fits 8 = .ok (.getfield 169, 3) := by decide +kernel
theorem dX7_fits_11 : decode cX7_fits 11 = .ok (.iadd, 1) := by decide +kernel
theorem dX7_fits_12 : decode cX7_fits 12 = .ok (.bipush 12, 2) := by decide +kernel
theorem dX7_fits_14 : decode cX7_fits 14 = .ok (.if_icmp .gt 7, 3) := by decide +kernel
theorem dX7_fits_17 : decode cX7_fits 17 = .ok (.iconst 1, 1) := by decide +kernel
theorem dX7_fits_18 : decode cX7_fits 18 = .ok (.goto 4, 3) := by decide +kernel
theorem dX7_fits_21 : decode cX7_fits 21 = .ok (.iconst 0, 1) := by decide +kernel
theorem dX7_fits_22 : decode cX7_fits 22 = .ok (.istore_n 1, 1) := by decide +kernel
theorem dX7_fits_23 : decode cX7_fits 23 = .ok (.iconst 0, 1) := by decide +kernel
theorem dX7_fits_24 : decode cX7_fits 24 = .ok (.istore_n 2, 1) := by decide +kernel
theorem dX7_fits_25 : decode cX7_fits 25 = .ok (.iload_n 2, 1) := by decide +kernel
theorem dX7_fits_26 : decode cX7_fits 26 = .ok (.aload_n 0, 1) := by decide +kernel
theorem dX7_fits_27 : decode cX7_fits 27 = .ok (.getfield 169, 3) := by decide +kernel
theorem dX7_fits_30 : decode cX7_fits 30 = .ok (.if_icmp .ge 147, 3) := by decide +kernel
theorem dX7_fits_33 : decode cX7_fits 33 = .ok (.iload_n 1, 1) := by decide +kernel
theorem dX7_fits_34 : decode cX7_fits 34 = .ok (.ifCond .eq 143, 3) := by decide +kernel
theorem dX7_fits_37 : decode cX7_fits 37 = .ok (.aload_n 0, 1) := by decide +kernel
theorem dX7_fits_38 : decode cX7_fits 38 = .ok (.getfield 38, 3) := by decide +kernel
theorem dX7_fits_41 : decode cX7_fits 41 = .ok (.iconst 4, 1) := by decide +kernel
theorem dX7_fits_42 : decode cX7_fits 42 = .ok (.iload_n 2, 1) := by decide +kernel
theorem dX7_fits_43 : decode cX7_fits 43 = .ok (.imul, 1) := by decide +kernel
theorem dX7_fits_44 : decode cX7_fits 44 = .ok (.iaload, 1) := by decide +kernel
theorem dX7_fits_45 : decode cX7_fits 45 = .ok (.iconst 1, 1) := by decide +kernel
theorem dX7_fits_46 : decode cX7_fits 46 = .ok (.if_icmp .ne 16, 3) := by decide +kernel
theorem dX7_fits_49 : decode cX7_fits 49 = .ok (.aload_n 0, 1) := by decide +kernel
theorem dX7_fits_50 : decode cX7_fits 50 = .ok (.getfield 38, 3) := by decide +kernel
theorem dX7_fits_53 : decode cX7_fits 53 = .ok (.iconst 4, 1) := by decide +kernel
theorem dX7_fits_54 : decode cX7_fits 54 = .ok (.iload_n 2, 1) := by decide +kernel
theorem dX7_fits_55 : decode cX7_fits 55 = .ok (.imul, 1) := by decide +kernel
theorem dX7_fits_56 : decode cX7_fits 56 = .ok (.iconst 1, 1) := by decide +kernel
theorem dX7_fits_57 : decode cX7_fits 57 = .ok (.iadd, 1) := by decide +kernel
theorem dX7_fits_58 : decode cX7_fits 58 = .ok (.iaload, 1) := by decide +kernel
theorem dX7_fits_59 : decode cX7_fits 59 = .ok (.goto 29, 3) := by decide +kernel
theorem dX7_fits_62 : decode cX7_fits 62 = .ok (.aload_n 0, 1) := by decide +kernel
theorem dX7_fits_63 : decode cX7_fits 63 = .ok (.getfield 38, 3) := by decide +kernel
theorem dX7_fits_66 : decode cX7_fits 66 = .ok (.iconst 4, 1) := by decide +kernel
theorem dX7_fits_67 : decode cX7_fits 67 = .ok (.iload_n 2, 1) := by decide +kernel
theorem dX7_fits_68 : decode cX7_fits 68 = .ok (.imul, 1) := by decide +kernel
theorem dX7_fits_69 : decode cX7_fits 69 = .ok (.iaload, 1) := by decide +kernel
theorem dX7_fits_70 : decode cX7_fits 70 = .ok (.iconst 2, 1) := by decide +kernel
theorem dX7_fits_71 : decode cX7_fits 71 = .ok (.if_icmp .ne 16, 3) := by decide +kernel
theorem dX7_fits_74 : decode cX7_fits 74 = .ok (.aload_n 0, 1) := by decide +kernel
theorem dX7_fits_75 : decode cX7_fits 75 = .ok (.getfield 38, 3) := by decide +kernel
theorem dX7_fits_78 : decode cX7_fits 78 = .ok (.iconst 4, 1) := by decide +kernel
theorem dX7_fits_79 : decode cX7_fits 79 = .ok (.iload_n 2, 1) := by decide +kernel
theorem dX7_fits_80 : decode cX7_fits 80 = .ok (.imul, 1) := by decide +kernel
theorem dX7_fits_81 : decode cX7_fits 81 = .ok (.iconst 3, 1) := by decide +kernel
theorem dX7_fits_82 : decode cX7_fits 82 = .ok (.iadd, 1) := by decide +kernel
theorem dX7_fits_83 : decode cX7_fits 83 = .ok (.iaload, 1) := by decide +kernel
theorem dX7_fits_84 : decode cX7_fits 84 = .ok (.goto 4, 3) := by decide +kernel
theorem dX7_fits_87 : decode cX7_fits 87 = .ok (.iconst (-1), 1) := by decide +kernel
theorem dX7_fits_88 : decode cX7_fits 88 = .ok (.istore_n 3, 1) := by decide +kernel
theorem dX7_fits_89 : decode cX7_fits 89 = .ok (.iload_n 3, 1) := by decide +kernel
theorem dX7_fits_90 : decode cX7_fits 90 = .ok (.iconst (-1), 1) := by decide +kernel
theorem dX7_fits_91 : decode cX7_fits 91 = .ok (.if_icmp .eq 20, 3) := by decide +kernel
theorem dX7_fits_94 : decode cX7_fits 94 = .ok (.aload_n 0, 1) := by decide +kernel
theorem dX7_fits_95 : decode cX7_fits 95 = .ok (.iload_n 3, 1) := by decide +kernel
theorem dX7_fits_96 : decode cX7_fits 96 = .ok (.invokevirtual 75, 3) := by decide +kernel
theorem dX7_fits_99 : decode cX7_fits 99 = .ok (.iconst (-1), 1) := by decide +kernel
theorem dX7_fits_100 : decode cX7_fits 100 = .ok (.if_icmp .ne 15, 3) := by decide +kernel
theorem dX7_fits_103 : decode cX7_fits 103 = .ok (.aload_n 0, 1) := by decide +kernel
theorem dX7_fits_104 : decode cX7_fits 104 = .ok (.iload_n 3, 1) := by decide +kernel
theorem dX7_fits_105 : decode cX7_fits 105 = .ok (.invokevirtual 103, 3) := by decide +kernel
theorem dX7_fits_108 : decode cX7_fits 108 = .ok (.ifCond .ne 7, 3) := by decide +kernel
theorem dX7_fits_111 : decode cX7_fits 111 = .ok (.iconst 1, 1) := by decide +kernel
theorem dX7_fits_112 : decode cX7_fits 112 = .ok (.goto 4, 3) := by decide +kernel
theorem dX7_fits_115 : decode cX7_fits 115 = .ok (.iconst 0, 1) := by decide +kernel
theorem dX7_fits_116 : decode cX7_fits 116 = .ok (.istore_n 1, 1) := by decide +kernel
theorem dX7_fits_117 : decode cX7_fits 117 = .ok (.iconst 0, 1) := by decide +kernel
theorem dX7_fits_118 : decode cX7_fits 118 = .ok (.istore 4, 2) := by decide +kernel
theorem dX7_fits_120 : decode cX7_fits 120 = .ok (.iload 4, 2) := by decide +kernel
theorem dX7_fits_122 : decode cX7_fits 122 = .ok (.iconst 4, 1) := by decide +kernel
theorem dX7_fits_123 : decode cX7_fits 123 = .ok (.if_icmp .ge 37, 3) := by decide +kernel
theorem dX7_fits_126 : decode cX7_fits 126 = .ok (.aload_n 0, 1) := by decide +kernel
theorem dX7_fits_127 : decode cX7_fits 127 = .ok (.getfield 7, 3) := by decide +kernel
theorem dX7_fits_130 : decode cX7_fits 130 = .ok (.iconst 4, 1) := by decide +kernel
theorem dX7_fits_131 : decode cX7_fits 131 = .ok (.aload_n 0, 1) := by decide +kernel
theorem dX7_fits_132 : decode cX7_fits 132 = .ok (.getfield 7, 3) := by decide +kernel
theorem dX7_fits_135 : decode cX7_fits 135 = .ok (.bipush 48, 2) := by decide +kernel
theorem dX7_fits_137 : decode cX7_fits 137 = .ok (.iaload, 1) := by decide +kernel
theorem dX7_fits_138 : decode cX7_fits 138 = .ok (.imul, 1) := by decide +kernel
theorem dX7_fits_139 : decode cX7_fits 139 = .ok (.iload 4, 2) := by decide +kernel
theorem dX7_fits_141 : decode cX7_fits 141 = .ok (.iadd, 1) := by decide +kernel
theorem dX7_fits_142 : decode cX7_fits 142 = .ok (.aload_n 0, 1) := by decide +kernel
theorem dX7_fits_143 : decode cX7_fits 143 = .ok (.getfield 38, 3) := by decide +kernel
theorem dX7_fits_146 : decode cX7_fits 146 = .ok (.iconst 4, 1) := by decide +kernel
theorem dX7_fits_147 : decode cX7_fits 147 = .ok (.iload_n 2, 1) := by decide +kernel
theorem dX7_fits_148 : decode cX7_fits 148 = .ok (.imul, 1) := by decide +kernel
theorem dX7_fits_149 : decode cX7_fits 149 = .ok (.iload 4, 2) := by decide +kernel
theorem dX7_fits_151 : decode cX7_fits 151 = .ok (.iadd, 1) := by decide +kernel
theorem dX7_fits_152 : decode cX7_fits 152 = .ok (.iaload, 1) := by decide +kernel
theorem dX7_fits_153 : decode cX7_fits 153 = .ok (.iastore, 1) := by decide +kernel
theorem dX7_fits_154 : decode cX7_fits 154 = .ok (.iinc 4 1, 3) := by decide +kernel
theorem dX7_fits_157 : decode cX7_fits 157 = .ok (.goto (-37), 3) := by decide +kernel
theorem dX7_fits_160 : decode cX7_fits 160 = .ok (.aload_n 0, 1) := by decide +kernel
theorem dX7_fits_161 : decode cX7_fits 161 = .ok (.getfield 7, 3) := by decide +kernel
theorem dX7_fits_164 : decode cX7_fits 164 = .ok (.bipush 48, 2) := by decide +kernel
theorem dX7_fits_166 : decode cX7_fits 166 = .ok (.dup2, 1) := by decide +kernel
theorem dX7_fits_167 : decode cX7_fits 167 = .ok (.iaload, 1) := by decide +kernel
theorem dX7_fits_168 : decode cX7_fits 168 = .ok (.iconst 1, 1) := by decide +kernel
theorem dX7_fits_169 : decode cX7_fits 169 = .ok (.iadd, 1) := by decide +kernel
theorem dX7_fits_170 : decode cX7_fits 170 = .ok (.iastore, 1) := by decide +kernel
theorem dX7_fits_171 : decode cX7_fits 171 = .ok (.iinc 2 1, 3) := by decide +kernel
theorem dX7_fits_174 : decode cX7_fits 174 = .ok (.goto (-149), 3) := by decide +kernel
theorem dX7_fits_177 : decode cX7_fits 177 = .ok (.iload_n 1, 1) := by decide +kernel
theorem dX7_fits_178 : decode cX7_fits 178 = .ok (.ifCond .eq 15, 3) := by decide +kernel
theorem dX7_fits_181 : decode cX7_fits 181 = .ok (.aload_n 0, 1) := by decide +kernel
theorem dX7_fits_182 : decode cX7_fits 182 = .ok (.invokevirtual 64, 3) := by decide +kernel
theorem dX7_fits_185 : decode cX7_fits 185 = .ok (.iconst 3, 1) := by decide +kernel
theorem dX7_fits_186 : decode cX7_fits 186 = .ok (.if_icmp .gt 7, 3) := by decide +kernel
theorem dX7_fits_189 : decode cX7_fits 189 = .ok (.iconst 1, 1) := by decide +kernel
theorem dX7_fits_190 : decode cX7_fits 190 = .ok (.goto 4, 3) := by decide +kernel
theorem dX7_fits_193 : decode cX7_fits 193 = .ok (.iconst 0, 1) := by decide +kernel
theorem dX7_fits_194 : decode cX7_fits 194 = .ok (.ireturn, 1) := by decide +kernel
theorem dX7_load_0 : decode cX7_load 0 = .ok (.aload_n 0, 1) := by decide +kernel
theorem dX7_load_1 : decode cX7_load 1 = .ok (.invokevirtual 207, 3) := by decide +kernel
theorem dX7_load_4 : decode cX7_load 4 = .ok (.aload_n 0, 1) := by decide +kernel
theorem dX7_load_5 : decode cX7_load 5 = .ok (.getfield 166, 3) := by decide +kernel
theorem dX7_load_8 : decode cX7_load 8 = .ok (.if_icmp .ne 14, 3) := by decide +kernel
theorem dX7_load_11 : decode cX7_load 11 = .ok (.aload_n 0, 1) := by decide +kernel
theorem dX7_load_12 : decode cX7_load 12 = .ok (.invokevirtual 188, 3) := by decide +kernel
theorem dX7_load_15 : decode cX7_load 15 = .ok (.ifCond .eq 7, 3) := by decide +kernel
theorem dX7_load_18 : decode cX7_load 18 = .ok (.iconst 1, 1) := by decide +kernel
theorem dX7_load_19 : decode cX7_load 19 = .ok (.goto 4, 3) := by decide +kernel
theorem dX7_load_22 : decode cX7_load 22 = .ok (.iconst 0, 1) := by decide +kernel
theorem dX7_load_23 : decode cX7_load 23 = .ok (.istore_n 1, 1) := by decide +kernel
theorem dX7_load_24 : decode cX7_load 24 = .ok (.aload_n 0, 1) := by decide +kernel
theorem dX7_load_25 : decode cX7_load 25 = .ok (.dup, 1) := by decide +kernel
theorem dX7_load_26 : decode cX7_load 26 = .ok (.getfield 169, 3) := by decide +kernel
theorem dX7_load_29 : decode cX7_load 29 = .ok (.iload_n 1, 1) := by decide +kernel
theorem dX7_load_30 : decode cX7_load 30 = .ok (.ifCond .eq 7, 3) := by decide +kernel
theorem dX7_load_33 : decode cX7_load 33 = .ok (.iconst 1, 1) := by decide +kernel
theorem dX7_load_34 : decode cX7_load 34 = .ok (.goto 4, 3) := by decide +kernel
theorem dX7_load_37 : decode cX7_load 37 = .ok (.iconst 0, 1) := by decide +kernel
theorem dX7_load_38 : decode cX7_load 38 = .ok (.iadd, 1) := by decide +kernel
theorem dX7_load_39 : decode cX7_load 39 = .ok (.putfield 169, 3) := by decide +kernel
theorem dX7_load_42 : decode cX7_load 42 = .ok (.iconst 0, 1) := by decide +kernel
theorem dX7_load_43 : decode cX7_load 43 = .ok (.istore_n 2, 1) := by decide +kernel
theorem dX7_load_44 : decode cX7_load 44 = .ok (.iload_n 2, 1) := by decide +kernel
theorem dX7_load_45 : decode cX7_load 45 = .ok (.aload_n 0, 1) := by decide +kernel
theorem dX7_load_46 : decode cX7_load 46 = .ok (.getfield 169, 3) := by decide +kernel
theorem dX7_load_49 : decode cX7_load 49 = .ok (.if_icmp .ge 19, 3) := by decide +kernel
theorem dX7_load_52 : decode cX7_load 52 = .ok (.iload_n 1, 1) := by decide +kernel
theorem dX7_load_53 : decode cX7_load 53 = .ok (.ifCond .eq 15, 3) := by decide +kernel
theorem dX7_load_56 : decode cX7_load 56 = .ok (.aload_n 0, 1) := by decide +kernel
theorem dX7_load_57 : decode cX7_load 57 = .ok (.iload_n 2, 1) := by decide +kernel
theorem dX7_load_58 : decode cX7_load 58 = .ok (.invokevirtual 210, 3) := by decide +kernel
theorem dX7_load_61 : decode cX7_load 61 = .ok (.istore_n 1, 1) := by decide +kernel
theorem dX7_load_62 : decode cX7_load 62 = .ok (.iinc 2 1, 3) := by decide +kernel
theorem dX7_load_65 : decode cX7_load 65 = .ok (.goto (-21), 3) := by decide +kernel
theorem dX7_load_68 : decode cX7_load 68 = .ok (.iload_n 1, 1) := by decide +kernel
theorem dX7_load_69 : decode cX7_load 69 = .ok (.ifCond .ne 10, 3) := by decide +kernel
theorem dX7_load_72 : decode cX7_load 72 = .ok (.aload_n 0, 1) := by decide +kernel
theorem dX7_load_73 : decode cX7_load 73 = .ok (.iconst 1, 1) := by decide +kernel
theorem dX7_load_74 : decode cX7_load 74 = .ok (.putfield 41, 3) := by decide +kernel
theorem dX7_load_77 : decode cX7_load 77 = .ok (.iconst 0, 1) := by decide +kernel
theorem dX7_load_78 : decode cX7_load 78 = .ok (.ireturn, 1) := by decide +kernel
theorem dX7_load_79 : decode cX7_load 79 = .ok (.aload_n 0, 1) := by decide +kernel
theorem dX7_load_80 : decode cX7_load 80 = .ok (.aload_n 0, 1) := by decide +kernel
theorem dX7_load_81 : decode cX7_load 81 = .ok (.getfield 7, 3) := by decide +kernel
theorem dX7_load_84 : decode cX7_load 84 = .ok (.iconst 0, 1) := by decide +kernel
theorem dX7_load_85 : decode cX7_load 85 = .ok (.aload_n 0, 1) := by decide +kernel
theorem dX7_load_86 : decode cX7_load 86 = .ok (.getfield 13, 3) := by decide +kernel
theorem dX7_load_89 : decode cX7_load 89 = .ok (.iconst 0, 1) := by decide +kernel
theorem dX7_load_90 : decode cX7_load 90 = .ok (.invokevirtual 56, 3) := by decide +kernel
theorem dX7_load_93 : decode cX7_load 93 = .ok (.aload_n 0, 1) := by decide +kernel
theorem dX7_load_94 : decode cX7_load 94 = .ok (.invokevirtual 213, 3) := by decide +kernel
theorem dX7_load_97 : decode cX7_load 97 = .ok (.istore_n 2, 1) := by decide +kernel
theorem dX7_load_98 : decode cX7_load 98 = .ok (.aload_n 0, 1) := by decide +kernel
theorem dX7_load_99 : decode cX7_load 99 = .ok (.iload_n 2, 1) := by decide +kernel
theorem dX7_load_100 : decode cX7_load 100 = .ok (.ifCond .eq 7, 3) := by decide +kernel
theorem dX7_load_103 : decode cX7_load 103 = .ok (.iconst 0, 1) := by decide +kernel
theorem dX7_load_104 : decode cX7_load 104 = .ok (.goto 4, 3) := by decide +kernel
theorem dX7_load_107 : decode cX7_load 107 = .ok (.iconst 2, 1) := by decide +kernel
theorem dX7_load_108 : decode cX7_load 108 = .ok (.putfield 41, 3) := by decide +kernel
theorem dX7_load_111 : decode cX7_load 111 = .ok (.iload_n 2, 1) := by decide +kernel
theorem dX7_load_112 : decode cX7_load 112 = .ok (.ifCond .ne 19, 3) := by decide +kernel
theorem dX7_load_115 : decode cX7_load 115 = .ok (.aload_n 0, 1) := by decide +kernel
theorem dX7_load_116 : decode cX7_load 116 = .ok (.aload_n 0, 1) := by decide +kernel
theorem dX7_load_117 : decode cX7_load 117 = .ok (.getfield 13, 3) := by decide +kernel
theorem dX7_load_120 : decode cX7_load 120 = .ok (.iconst 0, 1) := by decide +kernel
theorem dX7_load_121 : decode cX7_load 121 = .ok (.aload_n 0, 1) := by decide +kernel
theorem dX7_load_122 : decode cX7_load 122 = .ok (.getfield 7, 3) := by decide +kernel
theorem dX7_load_125 : decode cX7_load 125 = .ok (.iconst 0, 1) := by decide +kernel
theorem dX7_load_126 : decode cX7_load 126 = .ok (.invokevirtual 56, 3) := by decide +kernel
theorem dX7_load_129 : decode cX7_load 129 = .ok (.iconst 0, 1) := by decide +kernel
theorem dX7_load_130 : decode cX7_load 130 = .ok (.ireturn, 1) := by decide +kernel
theorem dX7_load_131 : decode cX7_load 131 = .ok (.aload_n 0, 1) := by decide +kernel
theorem dX7_load_132 : decode cX7_load 132 = .ok (.getfield 7, 3) := by decide +kernel
theorem dX7_load_135 : decode cX7_load 135 = .ok (.bipush 48, 2) := by decide +kernel
theorem dX7_load_137 : decode cX7_load 137 = .ok (.iaload, 1) := by decide +kernel
theorem dX7_load_138 : decode cX7_load 138 = .ok (.istore_n 3, 1) := by decide +kernel
theorem dX7_load_139 : decode cX7_load 139 = .ok (.aload_n 0, 1) := by decide +kernel
theorem dX7_load_140 : decode cX7_load 140 = .ok (.getfield 7, 3) := by decide +kernel
theorem dX7_load_143 : decode cX7_load 143 = .ok (.bipush 48, 2) := by decide +kernel
theorem dX7_load_145 : decode cX7_load 145 = .ok (.aload_n 0, 1) := by decide +kernel
theorem dX7_load_146 : decode cX7_load 146 = .ok (.getfield 13, 3) := by decide +kernel
theorem dX7_load_149 : decode cX7_load 149 = .ok (.bipush 48, 2) := by decide +kernel
theorem dX7_load_151 : decode cX7_load 151 = .ok (.iaload, 1) := by decide +kernel
theorem dX7_load_152 : decode cX7_load 152 = .ok (.iastore, 1) := by decide +kernel
theorem dX7_load_153 : decode cX7_load 153 = .ok (.aload_n 0, 1) := by decide +kernel
theorem dX7_load_154 : decode cX7_load 154 = .ok (.invokevirtual 147, 3) := by decide +kernel
theorem dX7_load_157 : decode cX7_load 157 = .ok (.aload_n 0, 1) := by decide +kernel
theorem dX7_load_158 : decode cX7_load 158 = .ok (.getfield 7, 3) := by decide +kernel
theorem dX7_load_161 : decode cX7_load 161 = .ok (.bipush 48, 2) := by decide +kernel
theorem dX7_load_163 : decode cX7_load 163 = .ok (.iload_n 3, 1) := by decide +kernel
theorem dX7_load_164 : decode cX7_load 164 = .ok (.iastore, 1) := by decide +kernel
theorem dX7_load_165 : decode cX7_load 165 = .ok (.aload_n 0, 1) := by decide +kernel
theorem dX7_load_166 : decode cX7_load 166 = .ok (.iconst 0, 1) := by decide +kernel
theorem dX7_load_167 : decode cX7_load 167 = .ok (.putfield 166, 3) := by decide +kernel
theorem dX7_load_170 : decode cX7_load 170 = .ok (.aload_n 0, 1) := by decide +kernel
theorem dX7_load_171 : decode cX7_load 171 = .ok (.invokevirtual 150, 3) := by decide +kernel
theorem dX7_load_174 : decode cX7_load 174 = .ok (.iload_n 3, 1) := by decide +kernel
theorem dX7_load_175 : decode cX7_load 175 = .ok (.ireturn, 1) := by decide +kernel
theorem dX7_common_0 : decode cX7_common 0 = .ok (.lload_n 0, 1) := by decide +kernel
theorem dX7_common_1 : decode cX7_common 1 = .ok (.lconst 0, 1) := by decide +kernel
theorem dX7_common_2 : decode cX7_common 2 = .ok (.lcmp, 1) := by decide +kernel
theorem dX7_common_3 : decode cX7_common 3 = .ok (.ifCond .ge 8, 3) := by decide +kernel
theorem dX7_common_6 : decode cX7_common 6 = .ok (.lload_n 0, 1) := by decide +kernel
theorem dX7_common_7 : decode cX7_common 7 = .ok (.lneg, 1) := by decide +kernel
theorem dX7_common_8 : decode cX7_common 8 = .ok (.goto 4, 3) := by decide +kernel
theorem dX7_common_11 : decode cX7_common 11 = .ok (.lload_n 0, 1) := by decide +kernel
theorem dX7_common_12 : decode cX7_common 12 = .ok (.lstore 4, 2) := by decide +kernel
theorem dX7_common_14 : decode cX7_common 14 = .ok (.lload_n 2, 1) := by decide +kernel
theorem dX7_common_15 : decode cX7_common 15 = .ok (.lstore 6, 2) := by decide +kernel
theorem dX7_common_17 : decode cX7_common 17 = .ok (.lload 6, 2) := by decide +kernel
theorem dX7_common_19 : decode cX7_common 19 = .ok (.lconst 0, 1) := by decide +kernel
theorem dX7_common_20 : decode cX7_common 20 = .ok (.lcmp, 1) := by decide +kernel
theorem dX7_common_21 : decode cX7_common 21 = .ok (.ifCond .le 21, 3) := by decide +kernel
theorem dX7_common_24 : decode cX7_common 24 = .ok (.lload 4, 2) := by decide +kernel
theorem dX7_common_26 : decode cX7_common 26 = .ok (.lload 6, 2) := by decide +kernel
theorem dX7_common_28 : decode cX7_common 28 = .ok (.lrem, 1) := by decide +kernel
theorem dX7_common_29 : decode cX7_common 29 = .ok (.lstore 8, 2) := by decide +kernel
theorem dX7_common_31 : decode cX7_common 31 = .ok (.lload 6, 2) := by decide +kernel
theorem dX7_common_33 : decode cX7_common 33 = .ok (.lstore 4, 2) := by decide +kernel
theorem dX7_common_35 : decode cX7_common 35 = .ok (.lload 8, 2) := by decide +kernel
theorem dX7_common_37 : decode cX7_common 37 = .ok (.lstore 6, 2) := by decide +kernel
theorem dX7_common_39 : decode cX7_common 39 = .ok (.goto (-22), 3) := by decide +kernel
theorem dX7_common_42 : decode cX7_common 42 = .ok (.lload 4, 2) := by decide +kernel
theorem dX7_common_44 : decode cX7_common 44 = .ok (.lreturn, 1) := by decide +kernel
theorem dX7_reduced_0 : decode cX7_reduced 0 = .ok (.iload_n 3, 1) := by decide +kernel
theorem dX7_reduced_1 : decode cX7_reduced 1 = .ok (.ifCond .ne 7, 3) := by decide +kernel
theorem dX7_reduced_4 : decode cX7_reduced 4 = .ok (.lload_n 1, 1) := by decide +kernel
theorem dX7_reduced_5 : decode cX7_reduced 5 = .ok (.goto 7, 3) := by decide +kernel
theorem dX7_reduced_8 : decode cX7_reduced 8 = .ok (.aload_n 0, 1) := by decide +kernel
theorem dX7_reduced_9 : decode cX7_reduced 9 = .ok (.getfield 122, 3) := by decide +kernel
theorem dX7_reduced_12 : decode cX7_reduced 12 = .ok (.lload_n 1, 1) := by decide +kernel
theorem dX7_reduced_13 : decode cX7_reduced 13 = .ok (.aload_n 0, 1) := by decide +kernel
theorem dX7_reduced_14 : decode cX7_reduced 14 = .ok (.getfield 122, 3) := by decide +kernel
theorem dX7_reduced_17 : decode cX7_reduced 17 = .ok (.invokestatic 216, 3) := by decide +kernel
theorem dX7_reduced_20 : decode cX7_reduced 20 = .ok (.ldiv, 1) := by decide +kernel
theorem dX7_reduced_21 : decode cX7_reduced 21 = .ok (.lreturn, 1) := by decide +kernel
theorem dX7_voltageNow_0 : decode cX7_voltageNow 0 = .ok (.iload_n 2, 1) := by decide +kernel
theorem dX7_voltageNow_1 : decode cX7_voltageNow 1 = .ok (.ifCond .eq 11, 3) := by decide +kernel
theorem dX7_voltageNow_4 : decode cX7_voltageNow 4 = .ok (.aload_n 0, 1) := by decide +kernel
theorem dX7_voltageNow_5 : decode cX7_voltageNow 5 = .ok (.iload_n 2, 1) := by decide +kernel
theorem dX7_voltageNow_6 : decode cX7_voltageNow 6 = .ok (.invokevirtual 71, 3) := by decide +kernel
theorem dX7_voltageNow_9 : decode cX7_voltageNow 9 = .ok (.ifCond .eq 16, 3) := by decide +kernel
theorem dX7_voltageNow_12 : decode cX7_voltageNow 12 = .ok (.aload_n 0, 1) := by decide +kernel
theorem dX7_voltageNow_13 : decode cX7_voltageNow 13 = .ok (.iload_n 1, 1) := by decide +kernel
theorem dX7_voltageNow_14 : decode cX7_voltageNow 14 = .ok (.iconst (-1), 1) := by decide +kernel
theorem dX7_voltageNow_15 : decode cX7_voltageNow 15 = .ok (.invokevirtual 126, 3) := by decide +kernel
theorem dX7_voltageNow_18 : decode cX7_voltageNow 18 = .ok (.ifCond .eq 7, 3) := by decide +kernel
theorem dX7_voltageNow_21 : decode cX7_voltageNow 21 = .ok (.iconst 1, 1) := by decide +kernel
theorem dX7_voltageNow_22 : decode cX7_voltageNow 22 = .ok (.goto 4, 3) := by decide +kernel
theorem dX7_voltageNow_25 : decode cX7_voltageNow 25 = .ok (.iconst 0, 1) := by decide +kernel
theorem dX7_voltageNow_26 : decode cX7_voltageNow 26 = .ok (.istore 4, 2) := by decide +kernel
theorem dX7_voltageNow_28 : decode cX7_voltageNow 28 = .ok (.iload 4, 2) := by decide +kernel
theorem dX7_voltageNow_30 : decode cX7_voltageNow 30 = .ok (.ifCond .eq 17, 3) := by decide +kernel
theorem dX7_voltageNow_33 : decode cX7_voltageNow 33 = .ok (.aload_n 0, 1) := by decide +kernel
theorem dX7_voltageNow_34 : decode cX7_voltageNow 34 = .ok (.aload_n 0, 1) := by decide +kernel
theorem dX7_voltageNow_35 : decode cX7_voltageNow 35 = .ok (.getfield 35, 3) := by decide +kernel
theorem dX7_voltageNow_38 : decode cX7_voltageNow 38 = .ok (.iload_n 2, 1) := by decide +kernel
theorem dX7_voltageNow_39 : decode cX7_voltageNow 39 = .ok (.laload, 1) := by decide +kernel
theorem dX7_voltageNow_40 : decode cX7_voltageNow 40 = .ok (.iload_n 3, 1) := by decide +kernel
theorem dX7_voltageNow_41 : decode cX7_voltageNow 41 = .ok (.invokevirtual 220, 3) := by decide +kernel
theorem dX7_voltageNow_44 : decode cX7_voltageNow 44 = .ok (.goto 4, 3) := by decide +kernel
theorem dX7_voltageNow_47 : decode cX7_voltageNow 47 = .ok (.lconst 0, 1) := by decide +kernel
theorem dX7_voltageNow_48 : decode cX7_voltageNow 48 = .ok (.lreturn, 1) := by decide +kernel
theorem dX7_isNode_0 : decode cX7_isNode 0 = .ok (.iload_n 0, 1) := by decide +kernel
theorem dX7_isNode_1 : decode cX7_isNode 1 = .ok (.iconst 0, 1) := by decide +kernel
theorem dX7_isNode_2 : decode cX7_isNode 2 = .ok (.bipush 6, 2) := by decide +kernel
theorem dX7_isNode_4 : decode cX7_isNode 4 = .ok (.invokestatic 45, 3) := by decide +kernel
theorem dX7_isNode_7 : decode cX7_isNode 7 = .ok (.ireturn, 1) := by decide +kernel
theorem dX7_present_0 : decode cX7_present 0 = .ok (.aload_n 0, 1) := by decide +kernel
theorem dX7_present_1 : decode cX7_present 1 = .ok (.getfield 7, 3) := by decide +kernel
theorem dX7_present_4 : decode cX7_present 4 = .ok (.bipush 51, 2) := by decide +kernel
theorem dX7_present_6 : decode cX7_present 6 = .ok (.iaload, 1) := by decide +kernel
theorem dX7_present_7 : decode cX7_present 7 = .ok (.iconst 1, 1) := by decide +kernel
theorem dX7_present_8 : decode cX7_present 8 = .ok (.if_icmp .ne 19, 3) := by decide +kernel
theorem dX7_present_11 : decode cX7_present 11 = .ok (.aload_n 0, 1) := by decide +kernel
theorem dX7_present_12 : decode cX7_present 12 = .ok (.aload_n 0, 1) := by decide +kernel
theorem dX7_present_13 : decode cX7_present 13 = .ok (.getfield 7, 3) := by decide +kernel
theorem dX7_present_16 : decode cX7_present 16 = .ok (.bipush 50, 2) := by decide +kernel
theorem dX7_present_18 : decode cX7_present 18 = .ok (.iaload, 1) := by decide +kernel
theorem dX7_present_19 : decode cX7_present 19 = .ok (.iload_n 1, 1) := by decide +kernel
theorem dX7_present_20 : decode cX7_present 20 = .ok (.iload_n 2, 1) := by decide +kernel
theorem dX7_present_21 : decode cX7_present 21 = .ok (.invokevirtual 224, 3) := by decide +kernel
theorem dX7_present_24 : decode cX7_present 24 = .ok (.goto 4, 3) := by decide +kernel
theorem dX7_present_27 : decode cX7_present 27 = .ok (.lconst 0, 1) := by decide +kernel
theorem dX7_present_28 : decode cX7_present 28 = .ok (.lreturn, 1) := by decide +kernel
theorem dX7_voltage_0 : decode cX7_voltage 0 = .ok (.aload_n 0, 1) := by decide +kernel
theorem dX7_voltage_1 : decode cX7_voltage 1 = .ok (.iload_n 1, 1) := by decide +kernel
theorem dX7_voltage_2 : decode cX7_voltage 2 = .ok (.invokestatic 228, 3) := by decide +kernel
theorem dX7_voltage_5 : decode cX7_voltage 5 = .ok (.ifCond .ne 7, 3) := by decide +kernel
theorem dX7_voltage_8 : decode cX7_voltage 8 = .ok (.iconst 1, 1) := by decide +kernel
theorem dX7_voltage_9 : decode cX7_voltage 9 = .ok (.goto 17, 3) := by decide +kernel
theorem dX7_voltage_12 : decode cX7_voltage 12 = .ok (.iload_n 2, 1) := by decide +kernel
theorem dX7_voltage_13 : decode cX7_voltage 13 = .ok (.iconst 0, 1) := by decide +kernel
theorem dX7_voltage_14 : decode cX7_voltage 14 = .ok (.iconst 1, 1) := by decide +kernel
theorem dX7_voltage_15 : decode cX7_voltage 15 = .ok (.invokestatic 45, 3) := by decide +kernel
theorem dX7_voltage_18 : decode cX7_voltage 18 = .ok (.ifCond .eq 7, 3) := by decide +kernel
theorem dX7_voltage_21 : decode cX7_voltage 21 = .ok (.iconst 0, 1) := by decide +kernel
theorem dX7_voltage_22 : decode cX7_voltage 22 = .ok (.goto 4, 3) := by decide +kernel
theorem dX7_voltage_25 : decode cX7_voltage 25 = .ok (.iconst 2, 1) := by decide +kernel
theorem dX7_voltage_26 : decode cX7_voltage 26 = .ok (.putfield 41, 3) := by decide +kernel
theorem dX7_voltage_29 : decode cX7_voltage 29 = .ok (.aload_n 0, 1) := by decide +kernel
theorem dX7_voltage_30 : decode cX7_voltage 30 = .ok (.getfield 41, 3) := by decide +kernel
theorem dX7_voltage_33 : decode cX7_voltage 33 = .ok (.ifCond .le 7, 3) := by decide +kernel
theorem dX7_voltage_36 : decode cX7_voltage 36 = .ok (.lconst 0, 1) := by decide +kernel
theorem dX7_voltage_37 : decode cX7_voltage 37 = .ok (.goto 9, 3) := by decide +kernel
theorem dX7_voltage_40 : decode cX7_voltage 40 = .ok (.aload_n 0, 1) := by decide +kernel
theorem dX7_voltage_41 : decode cX7_voltage 41 = .ok (.iload_n 1, 1) := by decide +kernel
theorem dX7_voltage_42 : decode cX7_voltage 42 = .ok (.iload_n 2, 1) := by decide +kernel
theorem dX7_voltage_43 : decode cX7_voltage 43 = .ok (.invokevirtual 231, 3) := by decide +kernel
theorem dX7_voltage_46 : decode cX7_voltage 46 = .ok (.lreturn, 1) := by decide +kernel
theorem dX7_current_0 : decode cX7_current 0 = .ok (.aload_n 0, 1) := by decide +kernel
theorem dX7_current_1 : decode cX7_current 1 = .ok (.aload_n 0, 1) := by decide +kernel
theorem dX7_current_2 : decode cX7_current 2 = .ok (.iload_n 1, 1) := by decide +kernel
theorem dX7_current_3 : decode cX7_current 3 = .ok (.invokevirtual 153, 3) := by decide +kernel
theorem dX7_current_6 : decode cX7_current 6 = .ok (.ifCond .ne 7, 3) := by decide +kernel
theorem dX7_current_9 : decode cX7_current 9 = .ok (.iconst 1, 1) := by decide +kernel
theorem dX7_current_10 : decode cX7_current 10 = .ok (.goto 30, 3) := by decide +kernel
theorem dX7_current_13 : decode cX7_current 13 = .ok (.aload_n 0, 1) := by decide +kernel
theorem dX7_current_14 : decode cX7_current 14 = .ok (.iload_n 1, 1) := by decide +kernel
theorem dX7_current_15 : decode cX7_current 15 = .ok (.iconst 0, 1) := by decide +kernel
theorem dX7_current_16 : decode cX7_current 16 = .ok (.invokevirtual 60, 3) := by decide +kernel
theorem dX7_current_19 : decode cX7_current 19 = .ok (.ifCond .ne 7, 3) := by decide +kernel
theorem dX7_current_22 : decode cX7_current 22 = .ok (.iconst 2, 1) := by decide +kernel
theorem dX7_current_23 : decode cX7_current 23 = .ok (.goto 17, 3) := by decide +kernel
theorem dX7_current_26 : decode cX7_current 26 = .ok (.iload_n 2, 1) := by decide +kernel
theorem dX7_current_27 : decode cX7_current 27 = .ok (.iconst 0, 1) := by decide +kernel
theorem dX7_current_28 : decode cX7_current 28 = .ok (.iconst 1, 1) := by decide +kernel
theorem dX7_current_29 : decode cX7_current 29 = .ok (.invokestatic 45, 3) := by decide +kernel
theorem dX7_current_32 : decode cX7_current 32 = .ok (.ifCond .eq 7, 3) := by decide +kernel
theorem dX7_current_35 : decode cX7_current 35 = .ok (.iconst 0, 1) := by decide +kernel
theorem dX7_current_36 : decode cX7_current 36 = .ok (.goto 4, 3) := by decide +kernel
theorem dX7_current_39 : decode cX7_current 39 = .ok (.iconst 3, 1) := by decide +kernel
theorem dX7_current_40 : decode cX7_current 40 = .ok (.putfield 41, 3) := by decide +kernel
theorem dX7_current_43 : decode cX7_current 43 = .ok (.aload_n 0, 1) := by decide +kernel
theorem dX7_current_44 : decode cX7_current 44 = .ok (.getfield 41, 3) := by decide +kernel
theorem dX7_current_47 : decode cX7_current 47 = .ok (.ifCond .gt 13, 3) := by decide +kernel
theorem dX7_current_50 : decode cX7_current 50 = .ok (.aload_n 0, 1) := by decide +kernel
theorem dX7_current_51 : decode cX7_current 51 = .ok (.getfield 7, 3) := by decide +kernel
theorem dX7_current_54 : decode cX7_current 54 = .ok (.bipush 51, 2) := by decide +kernel
theorem dX7_current_56 : decode cX7_current 56 = .ok (.iaload, 1) := by decide +kernel
theorem dX7_current_57 : decode cX7_current 57 = .ok (.ifCond .ne 5, 3) := by decide +kernel
theorem dX7_current_60 : decode cX7_current 60 = .ok (.lconst 0, 1) := by decide +kernel
theorem dX7_current_61 : decode cX7_current 61 = .ok (.lreturn, 1) := by decide +kernel
theorem dX7_current_62 : decode cX7_current 62 = .ok (.aload_n 0, 1) := by decide +kernel
theorem dX7_current_63 : decode cX7_current 63 = .ok (.aload_n 0, 1) := by decide +kernel
theorem dX7_current_64 : decode cX7_current 64 = .ok (.getfield 7, 3) := by decide +kernel
theorem dX7_current_67 : decode cX7_current 67 = .ok (.bipush 50, 2) := by decide +kernel
theorem dX7_current_69 : decode cX7_current 69 = .ok (.iaload, 1) := by decide +kernel
theorem dX7_current_70 : decode cX7_current 70 = .ok (.iconst (-1), 1) := by decide +kernel
theorem dX7_current_71 : decode cX7_current 71 = .ok (.invokevirtual 126, 3) := by decide +kernel
theorem dX7_current_74 : decode cX7_current 74 = .ok (.pop, 1) := by decide +kernel
theorem dX7_current_75 : decode cX7_current 75 = .ok (.aload_n 0, 1) := by decide +kernel
theorem dX7_current_76 : decode cX7_current 76 = .ok (.aload_n 0, 1) := by decide +kernel
theorem dX7_current_77 : decode cX7_current 77 = .ok (.iload_n 1, 1) := by decide +kernel
theorem dX7_current_78 : decode cX7_current 78 = .ok (.iconst 3, 1) := by decide +kernel
theorem dX7_current_79 : decode cX7_current 79 = .ok (.invokevirtual 49, 3) := by decide +kernel
theorem dX7_current_82 : decode cX7_current 82 = .ok (.i2l, 1) := by decide +kernel
theorem dX7_current_83 : decode cX7_current 83 = .ok (.aload_n 0, 1) := by decide +kernel
theorem dX7_current_84 : decode cX7_current 84 = .ok (.getfield 35, 3) := by decide +kernel
theorem dX7_current_87 : decode cX7_current 87 = .ok (.aload_n 0, 1) := by decide +kernel
theorem dX7_current_88 : decode cX7_current 88 = .ok (.iload_n 1, 1) := by decide +kernel
theorem dX7_current_89 : decode cX7_current 89 = .ok (.iconst 1, 1) := by decide +kernel
theorem dX7_current_90 : decode cX7_current 90 = .ok (.invokevirtual 49, 3) := by decide +kernel
theorem dX7_current_93 : decode cX7_current 93 = .ok (.laload, 1) := by decide +kernel
theorem dX7_current_94 : decode cX7_current 94 = .ok (.aload_n 0, 1) := by decide +kernel
theorem dX7_current_95 : decode cX7_current 95 = .ok (.getfield 35, 3) := by decide +kernel
theorem dX7_current_98 : decode cX7_current 98 = .ok (.aload_n 0, 1) := by decide +kernel
theorem dX7_current_99 : decode cX7_current 99 = .ok (.iload_n 1, 1) := by decide +kernel
theorem dX7_current_100 : decode cX7_current 100 = .ok (.iconst 2, 1) := by decide +kernel
theorem dX7_current_101 : decode cX7_current 101 = .ok (.invokevirtual 49, 3) := by decide +kernel
theorem dX7_current_104 : decode cX7_current 104 = .ok (.laload, 1) := by decide +kernel
theorem dX7_current_105 : decode cX7_current 105 = .ok (.lsub, 1) := by decide +kernel
theorem dX7_current_106 : decode cX7_current 106 = .ok (.lmul, 1) := by decide +kernel
theorem dX7_current_107 : decode cX7_current 107 = .ok (.iload_n 2, 1) := by decide +kernel
theorem dX7_current_108 : decode cX7_current 108 = .ok (.invokevirtual 220, 3) := by decide +kernel
theorem dX7_current_111 : decode cX7_current 111 = .ok (.lreturn, 1) := by decide +kernel
theorem dX7_signNow_0 : decode cX7_signNow 0 = .ok (.aload_n 0, 1) := by decide +kernel
theorem dX7_signNow_1 : decode cX7_signNow 1 = .ok (.getfield 7, 3) := by decide +kernel
theorem dX7_signNow_4 : decode cX7_signNow 4 = .ok (.bipush 51, 2) := by decide +kernel
theorem dX7_signNow_6 : decode cX7_signNow 6 = .ok (.iaload, 1) := by decide +kernel
theorem dX7_signNow_7 : decode cX7_signNow 7 = .ok (.ifCond .ne 5, 3) := by decide +kernel
theorem dX7_signNow_10 : decode cX7_signNow 10 = .ok (.iconst 0, 1) := by decide +kernel
theorem dX7_signNow_11 : decode cX7_signNow 11 = .ok (.ireturn, 1) := by decide +kernel
theorem dX7_signNow_12 : decode cX7_signNow 12 = .ok (.aload_n 0, 1) := by decide +kernel
theorem dX7_signNow_13 : decode cX7_signNow 13 = .ok (.aload_n 0, 1) := by decide +kernel
theorem dX7_signNow_14 : decode cX7_signNow 14 = .ok (.getfield 7, 3) := by decide +kernel
theorem dX7_signNow_17 : decode cX7_signNow 17 = .ok (.bipush 50, 2) := by decide +kernel
theorem dX7_signNow_19 : decode cX7_signNow 19 = .ok (.iaload, 1) := by decide +kernel
theorem dX7_signNow_20 : decode cX7_signNow 20 = .ok (.iconst (-1), 1) := by decide +kernel
theorem dX7_signNow_21 : decode cX7_signNow 21 = .ok (.invokevirtual 126, 3) := by decide +kernel
theorem dX7_signNow_24 : decode cX7_signNow 24 = .ok (.pop, 1) := by decide +kernel
theorem dX7_signNow_25 : decode cX7_signNow 25 = .ok (.aload_n 0, 1) := by decide +kernel
theorem dX7_signNow_26 : decode cX7_signNow 26 = .ok (.iload_n 1, 1) := by decide +kernel
theorem dX7_signNow_27 : decode cX7_signNow 27 = .ok (.invokevirtual 129, 3) := by decide +kernel
theorem dX7_signNow_30 : decode cX7_signNow 30 = .ok (.lstore_n 2, 1) := by decide +kernel
theorem dX7_signNow_31 : decode cX7_signNow 31 = .ok (.lload_n 2, 1) := by decide +kernel
theorem dX7_signNow_32 : decode cX7_signNow 32 = .ok (.lconst 0, 1) := by decide +kernel
theorem dX7_signNow_33 : decode cX7_signNow 33 = .ok (.lcmp, 1) := by decide +kernel
theorem dX7_signNow_34 : decode cX7_signNow 34 = .ok (.ifCond .le 7, 3) := by decide +kernel
theorem dX7_signNow_37 : decode cX7_signNow 37 = .ok (.iconst 1, 1) := by decide +kernel
theorem dX7_signNow_38 : decode cX7_signNow 38 = .ok (.goto 14, 3) := by decide +kernel
theorem dX7_signNow_41 : decode cX7_signNow 41 = .ok (.lload_n 2, 1) := by decide +kernel
theorem dX7_signNow_42 : decode cX7_signNow 42 = .ok (.lconst 0, 1) := by decide +kernel
theorem dX7_signNow_43 : decode cX7_signNow 43 = .ok (.lcmp, 1) := by decide +kernel
theorem dX7_signNow_44 : decode cX7_signNow 44 = .ok (.ifCond .ge 7, 3) := by decide +kernel
theorem dX7_signNow_47 : decode cX7_signNow 47 = .ok (.iconst (-1), 1) := by decide +kernel
theorem dX7_signNow_48 : decode cX7_signNow 48 = .ok (.goto 4, 3) := by decide +kernel
theorem dX7_signNow_51 : decode cX7_signNow 51 = .ok (.iconst 0, 1) := by decide +kernel
theorem dX7_signNow_52 : decode cX7_signNow 52 = .ok (.ireturn, 1) := by decide +kernel
theorem dX7_amplifierNow_0 : decode cX7_amplifierNow 0 = .ok (.iload_n 2, 1) := by decide +kernel
theorem dX7_amplifierNow_1 : decode cX7_amplifierNow 1 = .ok (.ifCond .ne 11, 3) := by decide +kernel
theorem dX7_amplifierNow_4 : decode cX7_amplifierNow 4 = .ok (.aload_n 0, 1) := by decide +kernel
theorem dX7_amplifierNow_5 : decode cX7_amplifierNow 5 = .ok (.iload_n 1, 1) := by decide +kernel
theorem dX7_amplifierNow_6 : decode cX7_amplifierNow 6 = .ok (.invokevirtual 92, 3) := by decide +kernel
theorem dX7_amplifierNow_9 : decode cX7_amplifierNow 9 = .ok (.goto 27, 3) := by decide +kernel
theorem dX7_amplifierNow_12 : decode cX7_amplifierNow 12 = .ok (.iload_n 2, 1) := by decide +kernel
theorem dX7_amplifierNow_13 : decode cX7_amplifierNow 13 = .ok (.iconst 1, 1) := by decide +kernel
theorem dX7_amplifierNow_14 : decode cX7_amplifierNow 14 = .ok (.if_icmp .ne 17, 3) := by decide +kernel
theorem dX7_amplifierNow_17 : decode cX7_amplifierNow 17 = .ok (.aload_n 0, 1) := by decide +kernel
theorem dX7_amplifierNow_18 : decode cX7_amplifierNow 18 = .ok (.getfield 7, 3) := by decide +kernel
theorem dX7_amplifierNow_21 : decode cX7_amplifierNow 21 = .ok (.bipush 50, 2) := by decide +kernel
theorem dX7_amplifierNow_23 : decode cX7_amplifierNow 23 = .ok (.iaload, 1) := by decide +kernel
theorem dX7_amplifierNow_24 : decode cX7_amplifierNow 24 = .ok (.iload_n 1, 1) := by decide +kernel
theorem dX7_amplifierNow_25 : decode cX7_amplifierNow 25 = .ok (.invokestatic 95, 3) := by decide +kernel
theorem dX7_amplifierNow_28 : decode cX7_amplifierNow 28 = .ok (.goto 8, 3) := by decide +kernel
theorem dX7_amplifierNow_31 : decode cX7_amplifierNow 31 = .ok (.aload_n 0, 1) := by decide +kernel
theorem dX7_amplifierNow_32 : decode cX7_amplifierNow 32 = .ok (.iload_n 1, 1) := by decide +kernel
theorem dX7_amplifierNow_33 : decode cX7_amplifierNow 33 = .ok (.invokevirtual 235, 3) := by decide +kernel
theorem dX7_amplifierNow_36 : decode cX7_amplifierNow 36 = .ok (.ireturn, 1) := by decide +kernel
theorem dX7_amplifier_0 : decode cX7_amplifier 0 = .ok (.aload_n 0, 1) := by decide +kernel
theorem dX7_amplifier_1 : decode cX7_amplifier 1 = .ok (.iload_n 1, 1) := by decide +kernel
theorem dX7_amplifier_2 : decode cX7_amplifier 2 = .ok (.iconst 0, 1) := by decide +kernel
theorem dX7_amplifier_3 : decode cX7_amplifier 3 = .ok (.aload_n 0, 1) := by decide +kernel
theorem dX7_amplifier_4 : decode cX7_amplifier 4 = .ok (.invokevirtual 64, 3) := by decide +kernel
theorem dX7_amplifier_7 : decode cX7_amplifier 7 = .ok (.iconst 1, 1) := by decide +kernel
theorem dX7_amplifier_8 : decode cX7_amplifier 8 = .ok (.isub, 1) := by decide +kernel
theorem dX7_amplifier_9 : decode cX7_amplifier 9 = .ok (.invokestatic 45, 3) := by decide +kernel
theorem dX7_amplifier_12 : decode cX7_amplifier 12 = .ok (.ifCond .ne 7, 3) := by decide +kernel
theorem dX7_amplifier_15 : decode cX7_amplifier 15 = .ok (.iconst 1, 1) := by decide +kernel
theorem dX7_amplifier_16 : decode cX7_amplifier 16 = .ok (.goto 17, 3) := by decide +kernel
theorem dX7_amplifier_19 : decode cX7_amplifier 19 = .ok (.iload_n 2, 1) := by decide +kernel
theorem dX7_amplifier_20 : decode cX7_amplifier 20 = .ok (.iconst 0, 1) := by decide +kernel
theorem dX7_amplifier_21 : decode cX7_amplifier 21 = .ok (.iconst 2, 1) := by decide +kernel
theorem dX7_amplifier_22 : decode cX7_amplifier 22 = .ok (.invokestatic 45, 3) := by decide +kernel
theorem dX7_amplifier_25 : decode cX7_amplifier 25 = .ok (.ifCond .eq 7, 3) := by decide +kernel
theorem dX7_amplifier_28 : decode cX7_amplifier 28 = .ok (.iconst 0, 1) := by decide +kernel
theorem dX7_amplifier_29 : decode cX7_amplifier 29 = .ok (.goto 4, 3) := by decide +kernel
theorem dX7_amplifier_32 : decode cX7_amplifier 32 = .ok (.iconst 2, 1) := by decide +kernel
theorem dX7_amplifier_33 : decode cX7_amplifier 33 = .ok (.putfield 41, 3) := by decide +kernel
theorem dX7_amplifier_36 : decode cX7_amplifier 36 = .ok (.aload_n 0, 1) := by decide +kernel
theorem dX7_amplifier_37 : decode cX7_amplifier 37 = .ok (.getfield 41, 3) := by decide +kernel
theorem dX7_amplifier_40 : decode cX7_amplifier 40 = .ok (.ifCond .le 7, 3) := by decide +kernel
theorem dX7_amplifier_43 : decode cX7_amplifier 43 = .ok (.iconst 0, 1) := by decide +kernel
theorem dX7_amplifier_44 : decode cX7_amplifier 44 = .ok (.goto 9, 3) := by decide +kernel
theorem dX7_amplifier_47 : decode cX7_amplifier 47 = .ok (.aload_n 0, 1) := by decide +kernel
theorem dX7_amplifier_48 : decode cX7_amplifier 48 = .ok (.iload_n 1, 1) := by decide +kernel
theorem dX7_amplifier_49 : decode cX7_amplifier 49 = .ok (.iload_n 2, 1) := by decide +kernel
theorem dX7_amplifier_50 : decode cX7_amplifier 50 = .ok (.invokevirtual 238, 3) := by decide +kernel
theorem dX7_amplifier_53 : decode cX7_amplifier 53 = .ok (.ireturn, 1) := by decide +kernel
theorem dX7_isCase_0 : decode cX7_isCase 0 = .ok (.iload_n 1, 1) := by decide +kernel
theorem dX7_isCase_1 : decode cX7_isCase 1 = .ok (.iconst 0, 1) := by decide +kernel
theorem dX7_isCase_2 : decode cX7_isCase 2 = .ok (.aload_n 0, 1) := by decide +kernel
theorem dX7_isCase_3 : decode cX7_isCase 3 = .ok (.invokevirtual 138, 3) := by decide +kernel
theorem dX7_isCase_6 : decode cX7_isCase 6 = .ok (.iconst 1, 1) := by decide +kernel
theorem dX7_isCase_7 : decode cX7_isCase 7 = .ok (.isub, 1) := by decide +kernel
theorem dX7_isCase_8 : decode cX7_isCase 8 = .ok (.invokestatic 45, 3) := by decide +kernel
theorem dX7_isCase_11 : decode cX7_isCase 11 = .ok (.ireturn, 1) := by decide +kernel
theorem dX7_why_0 : decode cX7_why 0 = .ok (.aload_n 0, 1) := by decide +kernel
theorem dX7_why_1 : decode cX7_why 1 = .ok (.aload_n 0, 1) := by decide +kernel
theorem dX7_why_2 : decode cX7_why 2 = .ok (.iload_n 1, 1) := by decide +kernel
theorem dX7_why_3 : decode cX7_why 3 = .ok (.invokevirtual 241, 3) := by decide +kernel
theorem dX7_why_6 : decode cX7_why 6 = .ok (.ifCond .eq 7, 3) := by decide +kernel
theorem dX7_why_9 : decode cX7_why 9 = .ok (.iconst 0, 1) := by decide +kernel
theorem dX7_why_10 : decode cX7_why 10 = .ok (.goto 4, 3) := by decide +kernel
theorem dX7_why_13 : decode cX7_why 13 = .ok (.iconst 1, 1) := by decide +kernel
theorem dX7_why_14 : decode cX7_why 14 = .ok (.putfield 41, 3) := by decide +kernel
theorem dX7_why_17 : decode cX7_why 17 = .ok (.aload_n 0, 1) := by decide +kernel
theorem dX7_why_18 : decode cX7_why 18 = .ok (.getfield 41, 3) := by decide +kernel
theorem dX7_why_21 : decode cX7_why 21 = .ok (.ifCond .le 7, 3) := by decide +kernel
theorem dX7_why_24 : decode cX7_why 24 = .ok (.iconst 0, 1) := by decide +kernel
theorem dX7_why_25 : decode cX7_why 25 = .ok (.goto 8, 3) := by decide +kernel
theorem dX7_why_28 : decode cX7_why 28 = .ok (.aload_n 0, 1) := by decide +kernel
theorem dX7_why_29 : decode cX7_why 29 = .ok (.iload_n 1, 1) := by decide +kernel
theorem dX7_why_30 : decode cX7_why 30 = .ok (.invokevirtual 144, 3) := by decide +kernel
theorem dX7_why_33 : decode cX7_why 33 = .ok (.ireturn, 1) := by decide +kernel
theorem dX7_concernedNow_0 : decode cX7_concernedNow 0 = .ok (.aload_n 0, 1) := by decide +kernel
theorem dX7_concernedNow_1 : decode cX7_concernedNow 1 = .ok (.iload_n 1, 1) := by decide +kernel
theorem dX7_concernedNow_2 : decode cX7_concernedNow 2 = .ok (.invokevirtual 144, 3) := by decide +kernel
theorem dX7_concernedNow_5 : decode cX7_concernedNow 5 = .ok (.pop, 1) := by decide +kernel
theorem dX7_concernedNow_6 : decode cX7_concernedNow 6 = .ok (.aload_n 0, 1) := by decide +kernel
theorem dX7_concernedNow_7 : decode cX7_concernedNow 7 = .ok (.getfield 132, 3) := by decide +kernel
theorem dX7_concernedNow_10 : decode cX7_concernedNow 10 = .ok (.ireturn, 1) := by decide +kernel
theorem dX7_concerned_0 : decode cX7_concerned 0 = .ok (.aload_n 0, 1) := by decide +kernel
theorem dX7_concerned_1 : decode cX7_concerned 1 = .ok (.aload_n 0, 1) := by decide +kernel
theorem dX7_concerned_2 : decode cX7_concerned 2 = .ok (.iload_n 1, 1) := by decide +kernel
theorem dX7_concerned_3 : decode cX7_concerned 3 = .ok (.invokevirtual 241, 3) := by decide +kernel
theorem dX7_concerned_6 : decode cX7_concerned 6 = .ok (.ifCond .eq 7, 3) := by decide +kernel
theorem dX7_concerned_9 : decode cX7_concerned 9 = .ok (.iconst 0, 1) := by decide +kernel
theorem dX7_concerned_10 : decode cX7_concerned 10 = .ok (.goto 4, 3) := by decide +kernel
theorem dX7_concerned_13 : decode cX7_concerned 13 = .ok (.iconst 1, 1) := by decide +kernel
theorem dX7_concerned_14 : decode cX7_concerned 14 = .ok (.putfield 41, 3) := by decide +kernel
theorem dX7_concerned_17 : decode cX7_concerned 17 = .ok (.aload_n 0, 1) := by decide +kernel
theorem dX7_concerned_18 : decode cX7_concerned 18 = .ok (.getfield 41, 3) := by decide +kernel
theorem dX7_concerned_21 : decode cX7_concerned 21 = .ok (.ifCond .le 7, 3) := by decide +kernel
theorem dX7_concerned_24 : decode cX7_concerned 24 = .ok (.iconst 0, 1) := by decide +kernel
theorem dX7_concerned_25 : decode cX7_concerned 25 = .ok (.goto 8, 3) := by decide +kernel
theorem dX7_concerned_28 : decode cX7_concerned 28 = .ok (.aload_n 0, 1) := by decide +kernel
theorem dX7_concerned_29 : decode cX7_concerned 29 = .ok (.iload_n 1, 1) := by decide +kernel
theorem dX7_concerned_30 : decode cX7_concerned 30 = .ok (.invokevirtual 244, 3) := by decide +kernel
theorem dX7_concerned_33 : decode cX7_concerned 33 = .ok (.ireturn, 1) := by decide +kernel
theorem dX7_inCase_0 : decode cX7_inCase 0 = .ok (.aload_n 0, 1) := by decide +kernel
theorem dX7_inCase_1 : decode cX7_inCase 1 = .ok (.aload_n 0, 1) := by decide +kernel
theorem dX7_inCase_2 : decode cX7_inCase 2 = .ok (.iload_n 1, 1) := by decide +kernel
theorem dX7_inCase_3 : decode cX7_inCase 3 = .ok (.invokevirtual 241, 3) := by decide +kernel
theorem dX7_inCase_6 : decode cX7_inCase 6 = .ok (.ifCond .eq 10, 3) := by decide +kernel
theorem dX7_inCase_9 : decode cX7_inCase 9 = .ok (.iload_n 2, 1) := by decide +kernel
theorem dX7_inCase_10 : decode cX7_inCase 10 = .ok (.invokestatic 228, 3) := by decide +kernel
theorem dX7_inCase_13 : decode cX7_inCase 13 = .ok (.ifCond .ne 7, 3) := by decide +kernel
theorem dX7_inCase_16 : decode cX7_inCase 16 = .ok (.iconst 1, 1) := by decide +kernel
theorem dX7_inCase_17 : decode cX7_inCase 17 = .ok (.goto 17, 3) := by decide +kernel
theorem dX7_inCase_20 : decode cX7_inCase 20 = .ok (.iload_n 3, 1) := by decide +kernel
theorem dX7_inCase_21 : decode cX7_inCase 21 = .ok (.iconst 0, 1) := by decide +kernel
theorem dX7_inCase_22 : decode cX7_inCase 22 = .ok (.iconst 1, 1) := by decide +kernel
theorem dX7_inCase_23 : decode cX7_inCase 23 = .ok (.invokestatic 45, 3) := by decide +kernel
theorem dX7_inCase_26 : decode cX7_inCase 26 = .ok (.ifCond .eq 7, 3) := by decide +kernel
theorem dX7_inCase_29 : decode cX7_inCase 29 = .ok (.iconst 0, 1) := by decide +kernel
theorem dX7_inCase_30 : decode cX7_inCase 30 = .ok (.goto 4, 3) := by decide +kernel
theorem dX7_inCase_33 : decode cX7_inCase 33 = .ok (.iconst 2, 1) := by decide +kernel
theorem dX7_inCase_34 : decode cX7_inCase 34 = .ok (.putfield 41, 3) := by decide +kernel
theorem dX7_inCase_37 : decode cX7_inCase 37 = .ok (.aload_n 0, 1) := by decide +kernel
theorem dX7_inCase_38 : decode cX7_inCase 38 = .ok (.getfield 41, 3) := by decide +kernel
theorem dX7_inCase_41 : decode cX7_inCase 41 = .ok (.ifCond .le 7, 3) := by decide +kernel
theorem dX7_inCase_44 : decode cX7_inCase 44 = .ok (.lconst 0, 1) := by decide +kernel
theorem dX7_inCase_45 : decode cX7_inCase 45 = .ok (.goto 10, 3) := by decide +kernel
theorem dX7_inCase_48 : decode cX7_inCase 48 = .ok (.aload_n 0, 1) := by decide +kernel
theorem dX7_inCase_49 : decode cX7_inCase 49 = .ok (.iload_n 1, 1) := by decide +kernel
theorem dX7_inCase_50 : decode cX7_inCase 50 = .ok (.iload_n 2, 1) := by decide +kernel
theorem dX7_inCase_51 : decode cX7_inCase 51 = .ok (.iload_n 3, 1) := by decide +kernel
theorem dX7_inCase_52 : decode cX7_inCase 52 = .ok (.invokevirtual 224, 3) := by decide +kernel
theorem dX7_inCase_55 : decode cX7_inCase 55 = .ok (.lreturn, 1) := by decide +kernel
theorem dX7_tripNow_0 : decode cX7_tripNow 0 = .ok (.aload_n 0, 1) := by decide +kernel
theorem dX7_tripNow_1 : decode cX7_tripNow 1 = .ok (.aload_n 0, 1) := by decide +kernel
theorem dX7_tripNow_2 : decode cX7_tripNow 2 = .ok (.getfield 7, 3) := by decide +kernel
theorem dX7_tripNow_5 : decode cX7_tripNow 5 = .ok (.iconst 0, 1) := by decide +kernel
theorem dX7_tripNow_6 : decode cX7_tripNow 6 = .ok (.aload_n 0, 1) := by decide +kernel
theorem dX7_tripNow_7 : decode cX7_tripNow 7 = .ok (.getfield 13, 3) := by decide +kernel
theorem dX7_tripNow_10 : decode cX7_tripNow 10 = .ok (.iconst 0, 1) := by decide +kernel
theorem dX7_tripNow_11 : decode cX7_tripNow 11 = .ok (.invokevirtual 56, 3) := by decide +kernel
theorem dX7_tripNow_14 : decode cX7_tripNow 14 = .ok (.aload_n 0, 1) := by decide +kernel
theorem dX7_tripNow_15 : decode cX7_tripNow 15 = .ok (.getfield 7, 3) := by decide +kernel
theorem dX7_tripNow_18 : decode cX7_tripNow 18 = .ok (.bipush 50, 2) := by decide +kernel
theorem dX7_tripNow_20 : decode cX7_tripNow 20 = .ok (.iaload, 1) := by decide +kernel
theorem dX7_tripNow_21 : decode cX7_tripNow 21 = .ok (.istore_n 3, 1) := by decide +kernel
theorem dX7_tripNow_22 : decode cX7_tripNow 22 = .ok (.iconst (-1), 1) := by decide +kernel
theorem dX7_tripNow_23 : decode cX7_tripNow 23 = .ok (.istore 4, 2) := by decide +kernel
theorem dX7_tripNow_25 : decode cX7_tripNow 25 = .ok (.iload 4, 2) := by decide +kernel
theorem dX7_tripNow_27 : decode cX7_tripNow 27 = .ok (.iconst (-1), 1) := by decide +kernel
theorem dX7_tripNow_28 : decode cX7_tripNow 28 = .ok (.if_icmp .ne 71, 3) := by decide +kernel
theorem dX7_tripNow_31 : decode cX7_tripNow 31 = .ok (.aload_n 0, 1) := by decide +kernel
theorem dX7_tripNow_32 : decode cX7_tripNow 32 = .ok (.iload_n 1, 1) := by decide +kernel
theorem dX7_tripNow_33 : decode cX7_tripNow 33 = .ok (.iconst 3, 1) := by decide +kernel
theorem dX7_tripNow_34 : decode cX7_tripNow 34 = .ok (.invokevirtual 49, 3) := by decide +kernel
theorem dX7_tripNow_37 : decode cX7_tripNow 37 = .ok (.iload_n 2, 1) := by decide +kernel
theorem dX7_tripNow_38 : decode cX7_tripNow 38 = .ok (.iadd, 1) := by decide +kernel
theorem dX7_tripNow_39 : decode cX7_tripNow 39 = .ok (.sipush (-200), 3) := by decide +kernel
theorem dX7_tripNow_42 : decode cX7_tripNow 42 = .ok (.sipush 200, 3) := by decide +kernel
theorem dX7_tripNow_45 : decode cX7_tripNow 45 = .ok (.invokestatic 45, 3) := by decide +kernel
theorem dX7_tripNow_48 : decode cX7_tripNow 48 = .ok (.ifCond .eq 51, 3) := by decide +kernel
theorem dX7_tripNow_51 : decode cX7_tripNow 51 = .ok (.aload_n 0, 1) := by decide +kernel
theorem dX7_tripNow_52 : decode cX7_tripNow 52 = .ok (.getfield 7, 3) := by decide +kernel
theorem dX7_tripNow_55 : decode cX7_tripNow 55 = .ok (.iconst 4, 1) := by decide +kernel
theorem dX7_tripNow_56 : decode cX7_tripNow 56 = .ok (.iload_n 1, 1) := by decide +kernel
theorem dX7_tripNow_57 : decode cX7_tripNow 57 = .ok (.imul, 1) := by decide +kernel
theorem dX7_tripNow_58 : decode cX7_tripNow 58 = .ok (.iconst 3, 1) := by decide +kernel
theorem dX7_tripNow_59 : decode cX7_tripNow 59 = .ok (.iadd, 1) := by decide +kernel
theorem dX7_tripNow_60 : decode cX7_tripNow 60 = .ok (.dup2, 1) := by decide +kernel
theorem dX7_tripNow_61 : decode cX7_tripNow 61 = .ok (.iaload, 1) := by decide +kernel
theorem dX7_tripNow_62 : decode cX7_tripNow 62 = .ok (.iload_n 2, 1) := by decide +kernel
theorem dX7_tripNow_63 : decode cX7_tripNow 63 = .ok (.iadd, 1) := by decide +kernel
theorem dX7_tripNow_64 : decode cX7_tripNow 64 = .ok (.iastore, 1) := by decide +kernel
theorem dX7_tripNow_65 : decode cX7_tripNow 65 = .ok (.aload_n 0, 1) := by decide +kernel
theorem dX7_tripNow_66 : decode cX7_tripNow 66 = .ok (.invokevirtual 150, 3) := by decide +kernel
theorem dX7_tripNow_69 : decode cX7_tripNow 69 = .ok (.aload_n 0, 1) := by decide +kernel
theorem dX7_tripNow_70 : decode cX7_tripNow 70 = .ok (.getfield 7, 3) := by decide +kernel
theorem dX7_tripNow_73 : decode cX7_tripNow 73 = .ok (.bipush 50, 2) := by decide +kernel
theorem dX7_tripNow_75 : decode cX7_tripNow 75 = .ok (.iaload, 1) := by decide +kernel
theorem dX7_tripNow_76 : decode cX7_tripNow 76 = .ok (.iload_n 3, 1) := by decide +kernel
theorem dX7_tripNow_77 : decode cX7_tripNow 77 = .ok (.if_icmp .ne 7, 3) := by decide +kernel
theorem dX7_tripNow_80 : decode cX7_tripNow 80 = .ok (.iconst (-1), 1) := by decide +kernel
theorem dX7_tripNow_81 : decode cX7_tripNow 81 = .ok (.goto 13, 3) := by decide +kernel
theorem dX7_tripNow_84 : decode cX7_tripNow 84 = .ok (.aload_n 0, 1) := by decide +kernel
theorem dX7_tripNow_85 : decode cX7_tripNow 85 = .ok (.iload_n 1, 1) := by decide +kernel
theorem dX7_tripNow_86 : decode cX7_tripNow 86 = .ok (.iconst 3, 1) := by decide +kernel
theorem dX7_tripNow_87 : decode cX7_tripNow 87 = .ok (.invokevirtual 49, 3) := by decide +kernel
theorem dX7_tripNow_90 : decode cX7_tripNow 90 = .ok (.sipush 1000, 3) := by decide +kernel
theorem dX7_tripNow_93 : decode cX7_tripNow 93 = .ok (.iadd, 1) := by decide +kernel
theorem dX7_tripNow_94 : decode cX7_tripNow 94 = .ok (.istore 4, 2) := by decide +kernel
theorem dX7_tripNow_96 : decode cX7_tripNow 96 = .ok (.goto (-71), 3) := by decide +kernel
theorem dX7_tripNow_99 : decode cX7_tripNow 99 = .ok (.aload_n 0, 1) := by decide +kernel
theorem dX7_tripNow_100 : decode cX7_tripNow 100 = .ok (.aload_n 0, 1) := by decide +kernel
theorem dX7_tripNow_101 : decode cX7_tripNow 101 = .ok (.getfield 13, 3) := by decide +kernel
theorem dX7_tripNow_104 : decode cX7_tripNow 104 = .ok (.iconst 0, 1) := by decide +kernel
theorem dX7_tripNow_105 : decode cX7_tripNow 105 = .ok (.aload_n 0, 1) := by decide +kernel
theorem dX7_tripNow_106 : decode cX7_tripNow 106 = .ok (.getfield 7, 3) := by decide +kernel
theorem dX7_tripNow_109 : decode cX7_tripNow 109 = .ok (.iconst 0, 1) := by decide +kernel
theorem dX7_tripNow_110 : decode cX7_tripNow 110 = .ok (.invokevirtual 56, 3) := by decide +kernel
theorem dX7_tripNow_113 : decode cX7_tripNow 113 = .ok (.iload 4, 2) := by decide +kernel
theorem dX7_tripNow_115 : decode cX7_tripNow 115 = .ok (.ireturn, 1) := by decide +kernel
theorem dX7_trip_0 : decode cX7_trip 0 = .ok (.aload_n 0, 1) := by decide +kernel
theorem dX7_trip_1 : decode cX7_trip 1 = .ok (.aload_n 0, 1) := by decide +kernel
theorem dX7_trip_2 : decode cX7_trip 2 = .ok (.iload_n 1, 1) := by decide +kernel
theorem dX7_trip_3 : decode cX7_trip 3 = .ok (.invokevirtual 153, 3) := by decide +kernel
theorem dX7_trip_6 : decode cX7_trip 6 = .ok (.ifCond .ne 7, 3) := by decide +kernel
theorem dX7_trip_9 : decode cX7_trip 9 = .ok (.iconst 1, 1) := by decide +kernel
theorem dX7_trip_10 : decode cX7_trip 10 = .ok (.goto 17, 3) := by decide +kernel
theorem dX7_trip_13 : decode cX7_trip 13 = .ok (.aload_n 0, 1) := by decide +kernel
theorem dX7_trip_14 : decode cX7_trip 14 = .ok (.iload_n 1, 1) := by decide +kernel
theorem dX7_trip_15 : decode cX7_trip 15 = .ok (.iconst 1, 1) := by decide +kernel
theorem dX7_trip_16 : decode cX7_trip 16 = .ok (.invokevirtual 60, 3) := by decide +kernel
theorem dX7_trip_19 : decode cX7_trip 19 = .ok (.ifCond .eq 7, 3) := by decide +kernel
theorem dX7_trip_22 : decode cX7_trip 22 = .ok (.iconst 0, 1) := by decide +kernel
theorem dX7_trip_23 : decode cX7_trip 23 = .ok (.goto 4, 3) := by decide +kernel
theorem dX7_trip_26 : decode cX7_trip 26 = .ok (.iconst 2, 1) := by decide +kernel
theorem dX7_trip_27 : decode cX7_trip 27 = .ok (.putfield 41, 3) := by decide +kernel
theorem dX7_trip_30 : decode cX7_trip 30 = .ok (.aload_n 0, 1) := by decide +kernel
theorem dX7_trip_31 : decode cX7_trip 31 = .ok (.getfield 41, 3) := by decide +kernel
theorem dX7_trip_34 : decode cX7_trip 34 = .ok (.ifCond .le 7, 3) := by decide +kernel
theorem dX7_trip_37 : decode cX7_trip 37 = .ok (.iconst 0, 1) := by decide +kernel
theorem dX7_trip_38 : decode cX7_trip 38 = .ok (.goto 17, 3) := by decide +kernel
theorem dX7_trip_41 : decode cX7_trip 41 = .ok (.aload_n 0, 1) := by decide +kernel
theorem dX7_trip_42 : decode cX7_trip 42 = .ok (.iload_n 1, 1) := by decide +kernel
theorem dX7_trip_43 : decode cX7_trip 43 = .ok (.iload_n 2, 1) := by decide +kernel
theorem dX7_trip_44 : decode cX7_trip 44 = .ok (.ifCond .eq 7, 3) := by decide +kernel
theorem dX7_trip_47 : decode cX7_trip 47 = .ok (.iconst 1, 1) := by decide +kernel
theorem dX7_trip_48 : decode cX7_trip 48 = .ok (.goto 4, 3) := by decide +kernel
theorem dX7_trip_51 : decode cX7_trip 51 = .ok (.iconst (-1), 1) := by decide +kernel
theorem dX7_trip_52 : decode cX7_trip 52 = .ok (.invokevirtual 247, 3) := by decide +kernel
theorem dX7_trip_55 : decode cX7_trip 55 = .ok (.ireturn, 1) := by decide +kernel
theorem dX7_ifValue_0 : decode cX7_ifValue 0 = .ok (.aload_n 0, 1) := by decide +kernel
theorem dX7_ifValue_1 : decode cX7_ifValue 1 = .ok (.aload_n 0, 1) := by decide +kernel
theorem dX7_ifValue_2 : decode cX7_ifValue 2 = .ok (.iload_n 1, 1) := by decide +kernel
theorem dX7_ifValue_3 : decode cX7_ifValue 3 = .ok (.invokevirtual 153, 3) := by decide +kernel
theorem dX7_ifValue_6 : decode cX7_ifValue 6 = .ok (.ifCond .ne 7, 3) := by decide +kernel
theorem dX7_ifValue_9 : decode cX7_ifValue 9 = .ok (.iconst 1, 1) := by decide +kernel
theorem dX7_ifValue_10 : decode cX7_ifValue 10 = .ok (.goto 30, 3) := by decide +kernel
theorem dX7_ifValue_13 : decode cX7_ifValue 13 = .ok (.aload_n 0, 1) := by decide +kernel
theorem dX7_ifValue_14 : decode cX7_ifValue 14 = .ok (.iload_n 1, 1) := by decide +kernel
theorem dX7_ifValue_15 : decode cX7_ifValue 15 = .ok (.iconst 2, 1) := by decide +kernel
theorem dX7_ifValue_16 : decode cX7_ifValue 16 = .ok (.invokevirtual 60, 3) := by decide +kernel
theorem dX7_ifValue_19 : decode cX7_ifValue 19 = .ok (.ifCond .eq 7, 3) := by decide +kernel
theorem dX7_ifValue_22 : decode cX7_ifValue 22 = .ok (.iconst 2, 1) := by decide +kernel
theorem dX7_ifValue_23 : decode cX7_ifValue 23 = .ok (.goto 17, 3) := by decide +kernel
theorem dX7_ifValue_26 : decode cX7_ifValue 26 = .ok (.aload_n 0, 1) := by decide +kernel
theorem dX7_ifValue_27 : decode cX7_ifValue 27 = .ok (.iload_n 1, 1) := by decide +kernel
theorem dX7_ifValue_28 : decode cX7_ifValue 28 = .ok (.iload_n 2, 1) := by decide +kernel
theorem dX7_ifValue_29 : decode cX7_ifValue 29 = .ok (.invokevirtual 156, 3) := by decide +kernel
theorem dX7_ifValue_32 : decode cX7_ifValue 32 = .ok (.ifCond .eq 7, 3) := by decide +kernel
theorem dX7_ifValue_35 : decode cX7_ifValue 35 = .ok (.iconst 0, 1) := by decide +kernel
theorem dX7_ifValue_36 : decode cX7_ifValue 36 = .ok (.goto 4, 3) := by decide +kernel
theorem dX7_ifValue_39 : decode cX7_ifValue 39 = .ok (.iconst 3, 1) := by decide +kernel
theorem dX7_ifValue_40 : decode cX7_ifValue 40 = .ok (.putfield 41, 3) := by decide +kernel
theorem dX7_ifValue_43 : decode cX7_ifValue 43 = .ok (.aload_n 0, 1) := by decide +kernel
theorem dX7_ifValue_44 : decode cX7_ifValue 44 = .ok (.getfield 41, 3) := by decide +kernel
theorem dX7_ifValue_47 : decode cX7_ifValue 47 = .ok (.ifCond .le 5, 3) := by decide +kernel
theorem dX7_ifValue_50 : decode cX7_ifValue 50 = .ok (.iconst 0, 1) := by decide +kernel
theorem dX7_ifValue_51 : decode cX7_ifValue 51 = .ok (.ireturn, 1) := by decide +kernel
theorem dX7_ifValue_52 : decode cX7_ifValue 52 = .ok (.aload_n 0, 1) := by decide +kernel
theorem dX7_ifValue_53 : decode cX7_ifValue 53 = .ok (.aload_n 0, 1) := by decide +kernel
theorem dX7_ifValue_54 : decode cX7_ifValue 54 = .ok (.getfield 7, 3) := by decide +kernel
theorem dX7_ifValue_57 : decode cX7_ifValue 57 = .ok (.iconst 0, 1) := by decide +kernel
theorem dX7_ifValue_58 : decode cX7_ifValue 58 = .ok (.aload_n 0, 1) := by decide +kernel
theorem dX7_ifValue_59 : decode cX7_ifValue 59 = .ok (.getfield 13, 3) := by decide +kernel
theorem dX7_ifValue_62 : decode cX7_ifValue 62 = .ok (.iconst 0, 1) := by decide +kernel
theorem dX7_ifValue_63 : decode cX7_ifValue 63 = .ok (.invokevirtual 56, 3) := by decide +kernel
theorem dX7_ifValue_66 : decode cX7_ifValue 66 = .ok (.aload_n 0, 1) := by decide +kernel
theorem dX7_ifValue_67 : decode cX7_ifValue 67 = .ok (.getfield 7, 3) := by decide +kernel
theorem dX7_ifValue_70 : decode cX7_ifValue 70 = .ok (.iconst 4, 1) := by decide +kernel
theorem dX7_ifValue_71 : decode cX7_ifValue 71 = .ok (.iload_n 1, 1) := by decide +kernel
theorem dX7_ifValue_72 : decode cX7_ifValue 72 = .ok (.imul, 1) := by decide +kernel
theorem dX7_ifValue_73 : decode cX7_ifValue 73 = .ok (.iconst 3, 1) := by decide +kernel
theorem dX7_ifValue_74 : decode cX7_ifValue 74 = .ok (.iadd, 1) := by decide +kernel
theorem dX7_ifValue_75 : decode cX7_ifValue 75 = .ok (.iload_n 2, 1) := by decide +kernel
theorem dX7_ifValue_76 : decode cX7_ifValue 76 = .ok (.iastore, 1) := by decide +kernel
theorem dX7_ifValue_77 : decode cX7_ifValue 77 = .ok (.aload_n 0, 1) := by decide +kernel
theorem dX7_ifValue_78 : decode cX7_ifValue 78 = .ok (.invokevirtual 150, 3) := by decide +kernel
theorem dX7_ifValue_81 : decode cX7_ifValue 81 = .ok (.aload_n 0, 1) := by decide +kernel
theorem dX7_ifValue_82 : decode cX7_ifValue 82 = .ok (.getfield 7, 3) := by decide +kernel
theorem dX7_ifValue_85 : decode cX7_ifValue 85 = .ok (.bipush 51, 2) := by decide +kernel
theorem dX7_ifValue_87 : decode cX7_ifValue 87 = .ok (.iaload, 1) := by decide +kernel
theorem dX7_ifValue_88 : decode cX7_ifValue 88 = .ok (.iconst 1, 1) := by decide +kernel
theorem dX7_ifValue_89 : decode cX7_ifValue 89 = .ok (.if_icmp .ne 13, 3) := by decide +kernel
theorem dX7_ifValue_92 : decode cX7_ifValue 92 = .ok (.aload_n 0, 1) := by decide +kernel
theorem dX7_ifValue_93 : decode cX7_ifValue 93 = .ok (.getfield 7, 3) := by decide +kernel
theorem dX7_ifValue_96 : decode cX7_ifValue 96 = .ok (.bipush 50, 2) := by decide +kernel
theorem dX7_ifValue_98 : decode cX7_ifValue 98 = .ok (.iaload, 1) := by decide +kernel
theorem dX7_ifValue_99 : decode cX7_ifValue 99 = .ok (.goto 4, 3) := by decide +kernel
theorem dX7_ifValue_102 : decode cX7_ifValue 102 = .ok (.iconst (-1), 1) := by decide +kernel
theorem dX7_ifValue_103 : decode cX7_ifValue 103 = .ok (.istore_n 3, 1) := by decide +kernel
theorem dX7_ifValue_104 : decode cX7_ifValue 104 = .ok (.aload_n 0, 1) := by decide +kernel
theorem dX7_ifValue_105 : decode cX7_ifValue 105 = .ok (.aload_n 0, 1) := by decide +kernel
theorem dX7_ifValue_106 : decode cX7_ifValue 106 = .ok (.getfield 13, 3) := by decide +kernel
theorem dX7_ifValue_109 : decode cX7_ifValue 109 = .ok (.iconst 0, 1) := by decide +kernel
theorem dX7_ifValue_110 : decode cX7_ifValue 110 = .ok (.aload_n 0, 1) := by decide +kernel
theorem dX7_ifValue_111 : decode cX7_ifValue 111 = .ok (.getfield 7, 3) := by decide +kernel
theorem dX7_ifValue_114 : decode cX7_ifValue 114 = .ok (.iconst 0, 1) := by decide +kernel
theorem dX7_ifValue_115 : decode cX7_ifValue 115 = .ok (.invokevirtual 56, 3) := by decide +kernel
theorem dX7_ifValue_118 : decode cX7_ifValue 118 = .ok (.iload_n 3, 1) := by decide +kernel
theorem dX7_ifValue_119 : decode cX7_ifValue 119 = .ok (.ireturn, 1) := by decide +kernel
theorem dX7_part_0 : decode cX7_part 0 = .ok (.aload_n 0, 1) := by decide +kernel
theorem dX7_part_1 : decode cX7_part 1 = .ok (.aload_n 0, 1) := by decide +kernel
theorem dX7_part_2 : decode cX7_part 2 = .ok (.iload_n 1, 1) := by decide +kernel
theorem dX7_part_3 : decode cX7_part 3 = .ok (.invokevirtual 153, 3) := by decide +kernel
theorem dX7_part_6 : decode cX7_part 6 = .ok (.ifCond .ne 7, 3) := by decide +kernel
theorem dX7_part_9 : decode cX7_part 9 = .ok (.iconst 1, 1) := by decide +kernel
theorem dX7_part_10 : decode cX7_part 10 = .ok (.goto 17, 3) := by decide +kernel
theorem dX7_part_13 : decode cX7_part 13 = .ok (.iload_n 2, 1) := by decide +kernel
theorem dX7_part_14 : decode cX7_part 14 = .ok (.iconst 0, 1) := by decide +kernel
theorem dX7_part_15 : decode cX7_part 15 = .ok (.iconst 3, 1) := by decide +kernel
theorem dX7_part_16 : decode cX7_part 16 = .ok (.invokestatic 45, 3) := by decide +kernel
theorem dX7_part_19 : decode cX7_part 19 = .ok (.ifCond .eq 7, 3) := by decide +kernel
theorem dX7_part_22 : decode cX7_part 22 = .ok (.iconst 0, 1) := by decide +kernel
theorem dX7_part_23 : decode cX7_part 23 = .ok (.goto 4, 3) := by decide +kernel
theorem dX7_part_26 : decode cX7_part 26 = .ok (.iconst 2, 1) := by decide +kernel
theorem dX7_part_27 : decode cX7_part 27 = .ok (.putfield 41, 3) := by decide +kernel
theorem dX7_part_30 : decode cX7_part 30 = .ok (.aload_n 0, 1) := by decide +kernel
theorem dX7_part_31 : decode cX7_part 31 = .ok (.getfield 41, 3) := by decide +kernel
theorem dX7_part_34 : decode cX7_part 34 = .ok (.ifCond .le 7, 3) := by decide +kernel
theorem dX7_part_37 : decode cX7_part 37 = .ok (.iconst 0, 1) := by decide +kernel
theorem dX7_part_38 : decode cX7_part 38 = .ok (.goto 9, 3) := by decide +kernel
theorem dX7_part_41 : decode cX7_part 41 = .ok (.aload_n 0, 1) := by decide +kernel
theorem dX7_part_42 : decode cX7_part 42 = .ok (.iload_n 1, 1) := by decide +kernel
theorem dX7_part_43 : decode cX7_part 43 = .ok (.iload_n 2, 1) := by decide +kernel
theorem dX7_part_44 : decode cX7_part 44 = .ok (.invokevirtual 49, 3) := by decide +kernel
theorem dX7_part_47 : decode cX7_part 47 = .ok (.ireturn, 1) := by decide +kernel
theorem dX7_casesThat_0 : decode cX7_casesThat 0 = .ok (.iconst 0, 1) := by decide +kernel
theorem dX7_casesThat_1 : decode cX7_casesThat 1 = .ok (.istore_n 2, 1) := by decide +kernel
theorem dX7_casesThat_2 : decode cX7_casesThat 2 = .ok (.aload_n 0, 1) := by decide +kernel
theorem dX7_casesThat_3 : decode cX7_casesThat 3 = .ok (.invokevirtual 138, 3) := by decide +kernel
theorem dX7_casesThat_6 : decode cX7_casesThat 6 = .ok (.istore_n 3, 1) := by decide +kernel
theorem dX7_casesThat_7 : decode cX7_casesThat 7 = .ok (.iconst 0, 1) := by decide +kernel
theorem dX7_casesThat_8 : decode cX7_casesThat 8 = .ok (.istore 4, 2) := by decide +kernel
theorem dX7_casesThat_10 : decode cX7_casesThat 10 = .ok (.iload 4, 2) := by decide +kernel
theorem dX7_casesThat_12 : decode cX7_casesThat 12 = .ok (.iload_n 3, 1) := by decide +kernel
theorem dX7_casesThat_13 : decode cX7_casesThat 13 = .ok (.if_icmp .ge 44, 3) := by decide +kernel
theorem dX7_casesThat_16 : decode cX7_casesThat 16 = .ok (.aload_n 0, 1) := by decide +kernel
theorem dX7_casesThat_17 : decode cX7_casesThat 17 = .ok (.iload 4, 2) := by decide +kernel
theorem dX7_casesThat_19 : decode cX7_casesThat 19 = .ok (.invokevirtual 144, 3) := by decide +kernel
theorem dX7_casesThat_22 : decode cX7_casesThat 22 = .ok (.istore 5, 2) := by decide +kernel
theorem dX7_casesThat_24 : decode cX7_casesThat 24 = .ok (.iload_n 2, 1) := by decide +kernel
theorem dX7_casesThat_25 : decode cX7_casesThat 25 = .ok (.iload_n 1, 1) := by decide +kernel
theorem dX7_casesThat_26 : decode cX7_casesThat 26 = .ok (.ifCond .eq 8, 3) := by decide +kernel
theorem dX7_casesThat_29 : decode cX7_casesThat 29 = .ok (.iload 5, 2) := by decide +kernel
theorem dX7_casesThat_31 : decode cX7_casesThat 31 = .ok (.ifCond .eq 13, 3) := by decide +kernel
theorem dX7_casesThat_34 : decode cX7_casesThat 34 = .ok (.iload_n 1, 1) := by decide +kernel
theorem dX7_casesThat_35 : decode cX7_casesThat 35 = .ok (.ifCond .ne 13, 3) := by decide +kernel
theorem dX7_casesThat_38 : decode cX7_casesThat 38 = .ok (.iload 5, 2) := by decide +kernel
theorem dX7_casesThat_40 : decode cX7_casesThat 40 = .ok (.iconst 1, 1) := by decide +kernel
theorem dX7_casesThat_41 : decode cX7_casesThat 41 = .ok (.if_icmp .eq 7, 3) := by decide +kernel
theorem dX7_casesThat_44 : decode cX7_casesThat 44 = .ok (.iconst 1, 1) := by decide +kernel
theorem dX7_casesThat_45 : decode cX7_casesThat 45 = .ok (.goto 4, 3) := by decide +kernel
theorem dX7_casesThat_48 : decode cX7_casesThat 48 = .ok (.iconst 0, 1) := by decide +kernel
theorem dX7_casesThat_49 : decode cX7_casesThat 49 = .ok (.iadd, 1) := by decide +kernel
theorem dX7_casesThat_50 : decode cX7_casesThat 50 = .ok (.istore_n 2, 1) := by decide +kernel
theorem dX7_casesThat_51 : decode cX7_casesThat 51 = .ok (.iinc 4 1, 3) := by decide +kernel
theorem dX7_casesThat_54 : decode cX7_casesThat 54 = .ok (.goto (-44), 3) := by decide +kernel
theorem dX7_casesThat_57 : decode cX7_casesThat 57 = .ok (.iload_n 2, 1) := by decide +kernel
theorem dX7_casesThat_58 : decode cX7_casesThat 58 = .ok (.ireturn, 1) := by decide +kernel
theorem dX7_usedNodes_0 : decode cX7_usedNodes 0 = .ok (.iconst 0, 1) := by decide +kernel
theorem dX7_usedNodes_1 : decode cX7_usedNodes 1 = .ok (.istore_n 1, 1) := by decide +kernel
theorem dX7_usedNodes_2 : decode cX7_usedNodes 2 = .ok (.iconst 1, 1) := by decide +kernel
theorem dX7_usedNodes_3 : decode cX7_usedNodes 3 = .ok (.istore_n 2, 1) := by decide +kernel
theorem dX7_usedNodes_4 : decode cX7_usedNodes 4 = .ok (.iload_n 2, 1) := by decide +kernel
theorem dX7_usedNodes_5 : decode cX7_usedNodes 5 = .ok (.bipush 7, 2) := by decide +kernel
theorem dX7_usedNodes_7 : decode cX7_usedNodes 7 = .ok (.if_icmp .ge 27, 3) := by decide +kernel
theorem dX7_usedNodes_10 : decode cX7_usedNodes 10 = .ok (.iload_n 1, 1) := by decide +kernel
theorem dX7_usedNodes_11 : decode cX7_usedNodes 11 = .ok (.aload_n 0, 1) := by decide +kernel
theorem dX7_usedNodes_12 : decode cX7_usedNodes 12 = .ok (.iload_n 2, 1) := by decide +kernel
theorem dX7_usedNodes_13 : decode cX7_usedNodes 13 = .ok (.invokevirtual 71, 3) := by decide +kernel
theorem dX7_usedNodes_16 : decode cX7_usedNodes 16 = .ok (.ifCond .eq 9, 3) := by decide +kernel
theorem dX7_usedNodes_19 : decode cX7_usedNodes 19 = .ok (.iconst 1, 1) := by decide +kernel
theorem dX7_usedNodes_20 : decode cX7_usedNodes 20 = .ok (.iload_n 2, 1) := by decide +kernel
theorem dX7_usedNodes_21 : decode cX7_usedNodes 21 = .ok (.ishl, 1) := by decide +kernel
theorem dX7_usedNodes_22 : decode cX7_usedNodes 22 = .ok (.goto 4, 3) := by decide +kernel
theorem dX7_usedNodes_25 : decode cX7_usedNodes 25 = .ok (.iconst 0, 1) := by decide +kernel
theorem dX7_usedNodes_26 : decode cX7_usedNodes 26 = .ok (.ior, 1) := by decide +kernel
theorem dX7_usedNodes_27 : decode cX7_usedNodes 27 = .ok (.istore_n 1, 1) := by decide +kernel
theorem dX7_usedNodes_28 : decode cX7_usedNodes 28 = .ok (.iinc 2 1, 3) := by decide +kernel
theorem dX7_usedNodes_31 : decode cX7_usedNodes 31 = .ok (.goto (-27), 3) := by decide +kernel
theorem dX7_usedNodes_34 : decode cX7_usedNodes 34 = .ok (.iload_n 1, 1) := by decide +kernel
theorem dX7_usedNodes_35 : decode cX7_usedNodes 35 = .ok (.ireturn, 1) := by decide +kernel
theorem dX7_counted_0 : decode cX7_counted 0 = .ok (.iload_n 1, 1) := by decide +kernel
theorem dX7_counted_1 : decode cX7_counted 1 = .ok (.tableswitch 110 0 8 #[51, 59, 64, 72, 80, 88, 94, 100, 105], 51) := by decide +kernel
theorem dX7_counted_52 : decode cX7_counted 52 = .ok (.aload_n 0, 1) := by decide +kernel
theorem dX7_counted_53 : decode cX7_counted 53 = .ok (.getfield 7, 3) := by decide +kernel
theorem dX7_counted_56 : decode cX7_counted 56 = .ok (.bipush 48, 2) := by decide +kernel
theorem dX7_counted_58 : decode cX7_counted 58 = .ok (.iaload, 1) := by decide +kernel
theorem dX7_counted_59 : decode cX7_counted 59 = .ok (.ireturn, 1) := by decide +kernel
theorem dX7_counted_60 : decode cX7_counted 60 = .ok (.aload_n 0, 1) := by decide +kernel
theorem dX7_counted_61 : decode cX7_counted 61 = .ok (.invokevirtual 64, 3) := by decide +kernel
theorem dX7_counted_64 : decode cX7_counted 64 = .ok (.ireturn, 1) := by decide +kernel
theorem dX7_counted_65 : decode cX7_counted 65 = .ok (.aload_n 0, 1) := by decide +kernel
theorem dX7_counted_66 : decode cX7_counted 66 = .ok (.getfield 7, 3) := by decide +kernel
theorem dX7_counted_69 : decode cX7_counted 69 = .ok (.bipush 49, 2) := by decide +kernel
theorem dX7_counted_71 : decode cX7_counted 71 = .ok (.iaload, 1) := by decide +kernel
theorem dX7_counted_72 : decode cX7_counted 72 = .ok (.ireturn, 1) := by decide +kernel
theorem dX7_counted_73 : decode cX7_counted 73 = .ok (.aload_n 0, 1) := by decide +kernel
theorem dX7_counted_74 : decode cX7_counted 74 = .ok (.getfield 7, 3) := by decide +kernel
theorem dX7_counted_77 : decode cX7_counted 77 = .ok (.bipush 50, 2) := by decide +kernel
theorem dX7_counted_79 : decode cX7_counted 79 = .ok (.iaload, 1) := by decide +kernel
theorem dX7_counted_80 : decode cX7_counted 80 = .ok (.ireturn, 1) := by decide +kernel
theorem dX7_counted_81 : decode cX7_counted 81 = .ok (.aload_n 0, 1) := by decide +kernel
theorem dX7_counted_82 : decode cX7_counted 82 = .ok (.getfield 7, 3) := by decide +kernel
theorem dX7_counted_85 : decode cX7_counted 85 = .ok (.bipush 51, 2) := by decide +kernel
theorem dX7_counted_87 : decode cX7_counted 87 = .ok (.iaload, 1) := by decide +kernel
theorem dX7_counted_88 : decode cX7_counted 88 = .ok (.ireturn, 1) := by decide +kernel
theorem dX7_counted_89 : decode cX7_counted 89 = .ok (.aload_n 0, 1) := by decide +kernel
theorem dX7_counted_90 : decode cX7_counted 90 = .ok (.iconst 1, 1) := by decide +kernel
theorem dX7_counted_91 : decode cX7_counted 91 = .ok (.invokevirtual 250, 3) := by decide +kernel
theorem dX7_counted_94 : decode cX7_counted 94 = .ok (.ireturn, 1) := by decide +kernel
theorem dX7_counted_95 : decode cX7_counted 95 = .ok (.aload_n 0, 1) := by decide +kernel
theorem dX7_counted_96 : decode cX7_counted 96 = .ok (.iconst 0, 1) := by decide +kernel
theorem dX7_counted_97 : decode cX7_counted 97 = .ok (.invokevirtual 250, 3) := by decide +kernel
theorem dX7_counted_100 : decode cX7_counted 100 = .ok (.ireturn, 1) := by decide +kernel
theorem dX7_counted_101 : decode cX7_counted 101 = .ok (.aload_n 0, 1) := by decide +kernel
theorem dX7_counted_102 : decode cX7_counted 102 = .ok (.invokevirtual 254, 3) := by decide +kernel
theorem dX7_counted_105 : decode cX7_counted 105 = .ok (.ireturn, 1) := by decide +kernel
theorem dX7_counted_106 : decode cX7_counted 106 = .ok (.aload_n 0, 1) := by decide +kernel
theorem dX7_counted_107 : decode cX7_counted 107 = .ok (.getfield 53, 3) := by decide +kernel
theorem dX7_counted_110 : decode cX7_counted 110 = .ok (.ireturn, 1) := by decide +kernel
theorem dX7_counted_111 : decode cX7_counted 111 = .ok (.aload_n 0, 1) := by decide +kernel
theorem dX7_counted_112 : decode cX7_counted 112 = .ok (.getfield 163, 3) := by decide +kernel
theorem dX7_counted_115 : decode cX7_counted 115 = .ok (.ireturn, 1) := by decide +kernel
theorem dX7_count_0 : decode cX7_count 0 = .ok (.aload_n 0, 1) := by decide +kernel
theorem dX7_count_1 : decode cX7_count 1 = .ok (.iload_n 1, 1) := by decide +kernel
theorem dX7_count_2 : decode cX7_count 2 = .ok (.iconst 0, 1) := by decide +kernel
theorem dX7_count_3 : decode cX7_count 3 = .ok (.bipush 9, 2) := by decide +kernel
theorem dX7_count_5 : decode cX7_count 5 = .ok (.invokestatic 45, 3) := by decide +kernel
theorem dX7_count_8 : decode cX7_count 8 = .ok (.ifCond .eq 7, 3) := by decide +kernel
theorem dX7_count_11 : decode cX7_count 11 = .ok (.iconst 0, 1) := by decide +kernel
theorem dX7_count_12 : decode cX7_count 12 = .ok (.goto 4, 3) := by decide +kernel
theorem dX7_count_15 : decode cX7_count 15 = .ok (.iconst 1, 1) := by decide +kernel
theorem dX7_count_16 : decode cX7_count 16 = .ok (.putfield 41, 3) := by decide +kernel
theorem dX7_count_19 : decode cX7_count 19 = .ok (.aload_n 0, 1) := by decide +kernel
theorem dX7_count_20 : decode cX7_count 20 = .ok (.getfield 41, 3) := by decide +kernel
theorem dX7_count_23 : decode cX7_count 23 = .ok (.ifCond .le 7, 3) := by decide +kernel
theorem dX7_count_26 : decode cX7_count 26 = .ok (.iconst 0, 1) := by decide +kernel
theorem dX7_count_27 : decode cX7_count 27 = .ok (.goto 8, 3) := by decide +kernel
theorem dX7_count_30 : decode cX7_count 30 = .ok (.aload_n 0, 1) := by decide +kernel
theorem dX7_count_31 : decode cX7_count 31 = .ok (.iload_n 1, 1) := by decide +kernel
theorem dX7_count_32 : decode cX7_count 32 = .ok (.invokevirtual 257, 3) := by decide +kernel
theorem dX7_count_35 : decode cX7_count 35 = .ok (.ireturn, 1) := by decide +kernel
theorem dX7_meanNow_0 : decode cX7_meanNow 0 = .ok (.dconst 0, 1) := by decide +kernel
theorem dX7_meanNow_1 : decode cX7_meanNow 1 = .ok (.dstore_n 1, 1) := by decide +kernel
theorem dX7_meanNow_2 : decode cX7_meanNow 2 = .ok (.iconst 0, 1) := by decide +kernel
theorem dX7_meanNow_3 : decode cX7_meanNow 3 = .ok (.istore_n 3, 1) := by decide +kernel
theorem dX7_meanNow_4 : decode cX7_meanNow 4 = .ok (.iconst 1, 1) := by decide +kernel
theorem dX7_meanNow_5 : decode cX7_meanNow 5 = .ok (.istore 4, 2) := by decide +kernel
theorem dX7_meanNow_7 : decode cX7_meanNow 7 = .ok (.iload 4, 2) := by decide +kernel
theorem dX7_meanNow_9 : decode cX7_meanNow 9 = .ok (.bipush 7, 2) := by decide +kernel
theorem dX7_meanNow_11 : decode cX7_meanNow 11 = .ok (.if_icmp .ge 52, 3) := by decide +kernel
theorem dX7_meanNow_14 : decode cX7_meanNow 14 = .ok (.aload_n 0, 1) := by decide +kernel
theorem dX7_meanNow_15 : decode cX7_meanNow 15 = .ok (.getfield 7, 3) := by decide +kernel
theorem dX7_meanNow_18 : decode cX7_meanNow 18 = .ok (.bipush 51, 2) := by decide +kernel
theorem dX7_meanNow_20 : decode cX7_meanNow 20 = .ok (.iaload, 1) := by decide +kernel
theorem dX7_meanNow_21 : decode cX7_meanNow 21 = .ok (.iconst 1, 1) := by decide +kernel
theorem dX7_meanNow_22 : decode cX7_meanNow 22 = .ok (.if_icmp .ne 35, 3) := by decide +kernel
theorem dX7_meanNow_25 : decode cX7_meanNow 25 = .ok (.aload_n 0, 1) := by decide +kernel
theorem dX7_meanNow_26 : decode cX7_meanNow 26 = .ok (.iload 4, 2) := by decide +kernel
theorem dX7_meanNow_28 : decode cX7_meanNow 28 = .ok (.invokevirtual 71, 3) := by decide +kernel
theorem dX7_meanNow_31 : decode cX7_meanNow 31 = .ok (.ifCond .eq 26, 3) := by decide +kernel
theorem dX7_meanNow_34 : decode cX7_meanNow 34 = .ok (.dload_n 1, 1) := by decide +kernel
theorem dX7_meanNow_35 : decode cX7_meanNow 35 = .ok (.aload_n 0, 1) := by decide +kernel
theorem dX7_meanNow_36 : decode cX7_meanNow 36 = .ok (.iload 4, 2) := by decide +kernel
theorem dX7_meanNow_38 : decode cX7_meanNow 38 = .ok (.iconst 0, 1) := by decide +kernel
theorem dX7_meanNow_39 : decode cX7_meanNow 39 = .ok (.invokevirtual 231, 3) := by decide +kernel
theorem dX7_meanNow_42 : decode cX7_meanNow 42 = .ok (.l2d, 1) := by decide +kernel
theorem dX7_meanNow_43 : decode cX7_meanNow 43 = .ok (.aload_n 0, 1) := by decide +kernel
theorem dX7_meanNow_44 : decode cX7_meanNow 44 = .ok (.iload 4, 2) := by decide +kernel
theorem dX7_meanNow_46 : decode cX7_meanNow 46 = .ok (.iconst 1, 1) := by decide +kernel
theorem dX7_meanNow_47 : decode cX7_meanNow 47 = .ok (.invokevirtual 231, 3) := by decide +kernel
theorem dX7_meanNow_50 : decode cX7_meanNow 50 = .ok (.l2d, 1) := by decide +kernel
theorem dX7_meanNow_51 : decode cX7_meanNow 51 = .ok (.ddiv, 1) := by decide +kernel
theorem dX7_meanNow_52 : decode cX7_meanNow 52 = .ok (.dadd, 1) := by decide +kernel
theorem dX7_meanNow_53 : decode cX7_meanNow 53 = .ok (.dstore_n 1, 1) := by decide +kernel
theorem dX7_meanNow_54 : decode cX7_meanNow 54 = .ok (.iinc 3 1, 3) := by decide +kernel
theorem dX7_meanNow_57 : decode cX7_meanNow 57 = .ok (.iinc 4 1, 3) := by decide +kernel
theorem dX7_meanNow_60 : decode cX7_meanNow 60 = .ok (.goto (-53), 3) := by decide +kernel
theorem dX7_meanNow_63 : decode cX7_meanNow 63 = .ok (.iload_n 3, 1) := by decide +kernel
theorem dX7_meanNow_64 : decode cX7_meanNow 64 = .ok (.ifCond .ne 7, 3) := by decide +kernel
theorem dX7_meanNow_67 : decode cX7_meanNow 67 = .ok (.dconst 0, 1) := by decide +kernel
theorem dX7_meanNow_68 : decode cX7_meanNow 68 = .ok (.goto 7, 3) := by decide +kernel
theorem dX7_meanNow_71 : decode cX7_meanNow 71 = .ok (.dload_n 1, 1) := by decide +kernel
theorem dX7_meanNow_72 : decode cX7_meanNow 72 = .ok (.iload_n 3, 1) := by decide +kernel
theorem dX7_meanNow_73 : decode cX7_meanNow 73 = .ok (.i2d, 1) := by decide +kernel
theorem dX7_meanNow_74 : decode cX7_meanNow 74 = .ok (.ddiv, 1) := by decide +kernel
theorem dX7_meanNow_75 : decode cX7_meanNow 75 = .ok (.dreturn, 1) := by decide +kernel
theorem dX7_meanVoltage_0 : decode cX7_meanVoltage 0 = .ok (.aload_n 0, 1) := by decide +kernel
theorem dX7_meanVoltage_1 : decode cX7_meanVoltage 1 = .ok (.iconst 0, 1) := by decide +kernel
theorem dX7_meanVoltage_2 : decode cX7_meanVoltage 2 = .ok (.putfield 41, 3) := by decide +kernel
theorem dX7_meanVoltage_5 : decode cX7_meanVoltage 5 = .ok (.aload_n 0, 1) := by decide +kernel
theorem dX7_meanVoltage_6 : decode cX7_meanVoltage 6 = .ok (.invokevirtual 260, 3) := by decide +kernel
theorem dX7_meanVoltage_9 : decode cX7_meanVoltage 9 = .ok (.dreturn, 1) := by decide +kernel
theorem dX7_mix_0 : decode cX7_mix 0 = .ok (.aload_n 0, 1) := by decide +kernel
theorem dX7_mix_1 : decode cX7_mix 1 = .ok (.ldc2_w 264, 3) := by decide +kernel
theorem dX7_mix_4 : decode cX7_mix 4 = .ok (.aload_n 0, 1) := by decide +kernel
theorem dX7_mix_5 : decode cX7_mix 5 = .ok (.getfield 266, 3) := by decide +kernel
theorem dX7_mix_8 : decode cX7_mix 8 = .ok (.lmul, 1) := by decide +kernel
theorem dX7_mix_9 : decode cX7_mix 9 = .ok (.lload_n 1, 1) := by decide +kernel
theorem dX7_mix_10 : decode cX7_mix 10 = .ok (.ladd, 1) := by decide +kernel
theorem dX7_mix_11 : decode cX7_mix 11 = .ok (.putfield 266, 3) := by decide +kernel
theorem dX7_mix_14 : decode cX7_mix 14 = .ok (.return_, 1) := by decide +kernel
theorem dX7_digest_0 : decode cX7_digest 0 = .ok (.aload_n 0, 1) := by decide +kernel
theorem dX7_digest_1 : decode cX7_digest 1 = .ok (.iconst 0, 1) := by decide +kernel
theorem dX7_digest_2 : decode cX7_digest 2 = .ok (.putfield 41, 3) := by decide +kernel
theorem dX7_digest_5 : decode cX7_digest 5 = .ok (.aload_n 0, 1) := by decide +kernel
theorem dX7_digest_6 : decode cX7_digest 6 = .ok (.ldc2_w 269, 3) := by decide +kernel
theorem dX7_digest_9 : decode cX7_digest 9 = .ok (.putfield 266, 3) := by decide +kernel
theorem dX7_digest_12 : decode cX7_digest 12 = .ok (.iconst 0, 1) := by decide +kernel
theorem dX7_digest_13 : decode cX7_digest 13 = .ok (.istore_n 1, 1) := by decide +kernel
theorem dX7_digest_14 : decode cX7_digest 14 = .ok (.iload_n 1, 1) := by decide +kernel
theorem dX7_digest_15 : decode cX7_digest 15 = .ok (.bipush 10, 2) := by decide +kernel
theorem dX7_digest_17 : decode cX7_digest 17 = .ok (.if_icmp .ge 19, 3) := by decide +kernel
theorem dX7_digest_20 : decode cX7_digest 20 = .ok (.aload_n 0, 1) := by decide +kernel
theorem dX7_digest_21 : decode cX7_digest 21 = .ok (.aload_n 0, 1) := by decide +kernel
theorem dX7_digest_22 : decode cX7_digest 22 = .ok (.iload_n 1, 1) := by decide +kernel
theorem dX7_digest_23 : decode cX7_digest 23 = .ok (.invokevirtual 257, 3) := by decide +kernel
theorem dX7_digest_26 : decode cX7_digest 26 = .ok (.i2l, 1) := by decide +kernel
theorem dX7_digest_27 : decode cX7_digest 27 = .ok (.invokevirtual 271, 3) := by decide +kernel
theorem dX7_digest_30 : decode cX7_digest 30 = .ok (.iinc 1 1, 3) := by decide +kernel
theorem dX7_digest_33 : decode cX7_digest 33 = .ok (.goto (-19), 3) := by decide +kernel
theorem dX7_digest_36 : decode cX7_digest 36 = .ok (.iconst 0, 1) := by decide +kernel
theorem dX7_digest_37 : decode cX7_digest 37 = .ok (.istore_n 1, 1) := by decide +kernel
theorem dX7_digest_38 : decode cX7_digest 38 = .ok (.iload_n 1, 1) := by decide +kernel
theorem dX7_digest_39 : decode cX7_digest 39 = .ok (.iconst 4, 1) := by decide +kernel
theorem dX7_digest_40 : decode cX7_digest 40 = .ok (.aload_n 0, 1) := by decide +kernel
theorem dX7_digest_41 : decode cX7_digest 41 = .ok (.getfield 7, 3) := by decide +kernel
theorem dX7_digest_44 : decode cX7_digest 44 = .ok (.bipush 48, 2) := by decide +kernel
theorem dX7_digest_46 : decode cX7_digest 46 = .ok (.iaload, 1) := by decide +kernel
theorem dX7_digest_47 : decode cX7_digest 47 = .ok (.imul, 1) := by decide +kernel
theorem dX7_digest_48 : decode cX7_digest 48 = .ok (.if_icmp .ge 20, 3) := by decide +kernel
theorem dX7_digest_51 : decode cX7_digest 51 = .ok (.aload_n 0, 1) := by decide +kernel
theorem dX7_digest_52 : decode cX7_digest 52 = .ok (.aload_n 0, 1) := by decide +kernel
theorem dX7_digest_53 : decode cX7_digest 53 = .ok (.getfield 7, 3) := by decide +kernel
theorem dX7_digest_56 : decode cX7_digest 56 = .ok (.iload_n 1, 1) := by decide +kernel
theorem dX7_digest_57 : decode cX7_digest 57 = .ok (.iaload, 1) := by decide +kernel
theorem dX7_digest_58 : decode cX7_digest 58 = .ok (.i2l, 1) := by decide +kernel
theorem dX7_digest_59 : decode cX7_digest 59 = .ok (.invokevirtual 271, 3) := by decide +kernel
theorem dX7_digest_62 : decode cX7_digest 62 = .ok (.iinc 1 1, 3) := by decide +kernel
theorem dX7_digest_65 : decode cX7_digest 65 = .ok (.goto (-27), 3) := by decide +kernel
theorem dX7_digest_68 : decode cX7_digest 68 = .ok (.iconst 0, 1) := by decide +kernel
theorem dX7_digest_69 : decode cX7_digest 69 = .ok (.istore_n 1, 1) := by decide +kernel
theorem dX7_digest_70 : decode cX7_digest 70 = .ok (.iload_n 1, 1) := by decide +kernel
theorem dX7_digest_71 : decode cX7_digest 71 = .ok (.bipush 14, 2) := by decide +kernel
theorem dX7_digest_73 : decode cX7_digest 73 = .ok (.if_icmp .ge 23, 3) := by decide +kernel
theorem dX7_digest_76 : decode cX7_digest 76 = .ok (.aload_n 0, 1) := by decide +kernel
theorem dX7_digest_77 : decode cX7_digest 77 = .ok (.aload_n 0, 1) := by decide +kernel
theorem dX7_digest_78 : decode cX7_digest 78 = .ok (.iload_n 1, 1) := by decide +kernel
theorem dX7_digest_79 : decode cX7_digest 79 = .ok (.iconst 2, 1) := by decide +kernel
theorem dX7_digest_80 : decode cX7_digest 80 = .ok (.idiv, 1) := by decide +kernel
theorem dX7_digest_81 : decode cX7_digest 81 = .ok (.iload_n 1, 1) := by decide +kernel
theorem dX7_digest_82 : decode cX7_digest 82 = .ok (.iconst 2, 1) := by decide +kernel
theorem dX7_digest_83 : decode cX7_digest 83 = .ok (.irem, 1) := by decide +kernel
theorem dX7_digest_84 : decode cX7_digest 84 = .ok (.invokevirtual 231, 3) := by decide +kernel
theorem dX7_digest_87 : decode cX7_digest 87 = .ok (.invokevirtual 271, 3) := by decide +kernel
theorem dX7_digest_90 : decode cX7_digest 90 = .ok (.iinc 1 1, 3) := by decide +kernel
theorem dX7_digest_93 : decode cX7_digest 93 = .ok (.goto (-23), 3) := by decide +kernel
theorem dX7_digest_96 : decode cX7_digest 96 = .ok (.aload_n 0, 1) := by decide +kernel
theorem dX7_digest_97 : decode cX7_digest 97 = .ok (.invokevirtual 64, 3) := by decide +kernel
theorem dX7_digest_100 : decode cX7_digest 100 = .ok (.istore_n 1, 1) := by decide +kernel
theorem dX7_digest_101 : decode cX7_digest 101 = .ok (.iconst 0, 1) := by decide +kernel
theorem dX7_digest_102 : decode cX7_digest 102 = .ok (.istore_n 2, 1) := by decide +kernel
theorem dX7_digest_103 : decode cX7_digest 103 = .ok (.iload_n 2, 1) := by decide +kernel
theorem dX7_digest_104 : decode cX7_digest 104 = .ok (.iconst 3, 1) := by decide +kernel
theorem dX7_digest_105 : decode cX7_digest 105 = .ok (.iload_n 1, 1) := by decide +kernel
theorem dX7_digest_106 : decode cX7_digest 106 = .ok (.imul, 1) := by decide +kernel
theorem dX7_digest_107 : decode cX7_digest 107 = .ok (.if_icmp .ge 24, 3) := by decide +kernel
theorem dX7_digest_110 : decode cX7_digest 110 = .ok (.aload_n 0, 1) := by decide +kernel
theorem dX7_digest_111 : decode cX7_digest 111 = .ok (.aload_n 0, 1) := by decide +kernel
theorem dX7_digest_112 : decode cX7_digest 112 = .ok (.iload_n 2, 1) := by decide +kernel
theorem dX7_digest_113 : decode cX7_digest 113 = .ok (.iconst 3, 1) := by decide +kernel
theorem dX7_digest_114 : decode cX7_digest 114 = .ok (.idiv, 1) := by decide +kernel
theorem dX7_digest_115 : decode cX7_digest 115 = .ok (.iload_n 2, 1) := by decide +kernel
theorem dX7_digest_116 : decode cX7_digest 116 = .ok (.iconst 3, 1) := by decide +kernel
theorem dX7_digest_117 : decode cX7_digest 117 = .ok (.irem, 1) := by decide +kernel
theorem dX7_digest_118 : decode cX7_digest 118 = .ok (.invokevirtual 238, 3) := by decide +kernel
theorem dX7_digest_121 : decode cX7_digest 121 = .ok (.i2l, 1) := by decide +kernel
theorem dX7_digest_122 : decode cX7_digest 122 = .ok (.invokevirtual 271, 3) := by decide +kernel
theorem dX7_digest_125 : decode cX7_digest 125 = .ok (.iinc 2 1, 3) := by decide +kernel
theorem dX7_digest_128 : decode cX7_digest 128 = .ok (.goto (-25), 3) := by decide +kernel
theorem dX7_digest_131 : decode cX7_digest 131 = .ok (.aload_n 0, 1) := by decide +kernel
theorem dX7_digest_132 : decode cX7_digest 132 = .ok (.invokevirtual 138, 3) := by decide +kernel
theorem dX7_digest_135 : decode cX7_digest 135 = .ok (.istore_n 1, 1) := by decide +kernel
theorem dX7_digest_136 : decode cX7_digest 136 = .ok (.iconst 0, 1) := by decide +kernel
theorem dX7_digest_137 : decode cX7_digest 137 = .ok (.istore_n 2, 1) := by decide +kernel
theorem dX7_digest_138 : decode cX7_digest 138 = .ok (.iload_n 2, 1) := by decide +kernel
theorem dX7_digest_139 : decode cX7_digest 139 = .ok (.iload_n 1, 1) := by decide +kernel
theorem dX7_digest_140 : decode cX7_digest 140 = .ok (.if_icmp .ge 28, 3) := by decide +kernel
theorem dX7_digest_143 : decode cX7_digest 143 = .ok (.aload_n 0, 1) := by decide +kernel
theorem dX7_digest_144 : decode cX7_digest 144 = .ok (.aload_n 0, 1) := by decide +kernel
theorem dX7_digest_145 : decode cX7_digest 145 = .ok (.iload_n 2, 1) := by decide +kernel
theorem dX7_digest_146 : decode cX7_digest 146 = .ok (.invokevirtual 144, 3) := by decide +kernel
theorem dX7_digest_149 : decode cX7_digest 149 = .ok (.i2l, 1) := by decide +kernel
theorem dX7_digest_150 : decode cX7_digest 150 = .ok (.invokevirtual 271, 3) := by decide +kernel
theorem dX7_digest_153 : decode cX7_digest 153 = .ok (.aload_n 0, 1) := by decide +kernel
theorem dX7_digest_154 : decode cX7_digest 154 = .ok (.aload_n 0, 1) := by decide +kernel
theorem dX7_digest_155 : decode cX7_digest 155 = .ok (.getfield 132, 3) := by decide +kernel
theorem dX7_digest_158 : decode cX7_digest 158 = .ok (.i2l, 1) := by decide +kernel
theorem dX7_digest_159 : decode cX7_digest 159 = .ok (.invokevirtual 271, 3) := by decide +kernel
theorem dX7_digest_162 : decode cX7_digest 162 = .ok (.iinc 2 1, 3) := by decide +kernel
theorem dX7_digest_165 : decode cX7_digest 165 = .ok (.goto (-27), 3) := by decide +kernel
theorem dX7_digest_168 : decode cX7_digest 168 = .ok (.aload_n 0, 1) := by decide +kernel
theorem dX7_digest_169 : decode cX7_digest 169 = .ok (.aload_n 0, 1) := by decide +kernel
theorem dX7_digest_170 : decode cX7_digest 170 = .ok (.invokevirtual 260, 3) := by decide +kernel
theorem dX7_digest_173 : decode cX7_digest 173 = .ok (.invokestatic 275, 3) := by decide +kernel
theorem dX7_digest_176 : decode cX7_digest 176 = .ok (.invokevirtual 271, 3) := by decide +kernel
theorem dX7_digest_179 : decode cX7_digest 179 = .ok (.aload_n 0, 1) := by decide +kernel
theorem dX7_digest_180 : decode cX7_digest 180 = .ok (.aload_n 0, 1) := by decide +kernel
theorem dX7_digest_181 : decode cX7_digest 181 = .ok (.getfield 166, 3) := by decide +kernel
theorem dX7_digest_184 : decode cX7_digest 184 = .ok (.i2l, 1) := by decide +kernel
theorem dX7_digest_185 : decode cX7_digest 185 = .ok (.invokevirtual 271, 3) := by decide +kernel
theorem dX7_digest_188 : decode cX7_digest 188 = .ok (.iconst 0, 1) := by decide +kernel
theorem dX7_digest_189 : decode cX7_digest 189 = .ok (.istore_n 2, 1) := by decide +kernel
theorem dX7_digest_190 : decode cX7_digest 190 = .ok (.iload_n 2, 1) := by decide +kernel
theorem dX7_digest_191 : decode cX7_digest 191 = .ok (.aload_n 0, 1) := by decide +kernel
theorem dX7_digest_192 : decode cX7_digest 192 = .ok (.getfield 166, 3) := by decide +kernel
theorem dX7_digest_195 : decode cX7_digest 195 = .ok (.if_icmp .ge 20, 3) := by decide +kernel
theorem dX7_digest_198 : decode cX7_digest 198 = .ok (.aload_n 0, 1) := by decide +kernel
theorem dX7_digest_199 : decode cX7_digest 199 = .ok (.aload_n 0, 1) := by decide +kernel
theorem dX7_digest_200 : decode cX7_digest 200 = .ok (.getfield 22, 3) := by decide +kernel
theorem dX7_digest_203 : decode cX7_digest 203 = .ok (.iload_n 2, 1) := by decide +kernel
theorem dX7_digest_204 : decode cX7_digest 204 = .ok (.iaload, 1) := by decide +kernel
theorem dX7_digest_205 : decode cX7_digest 205 = .ok (.i2l, 1) := by decide +kernel
theorem dX7_digest_206 : decode cX7_digest 206 = .ok (.invokevirtual 271, 3) := by decide +kernel
theorem dX7_digest_209 : decode cX7_digest 209 = .ok (.iinc 2 1, 3) := by decide +kernel
theorem dX7_digest_212 : decode cX7_digest 212 = .ok (.goto (-22), 3) := by decide +kernel
theorem dX7_digest_215 : decode cX7_digest 215 = .ok (.aload_n 0, 1) := by decide +kernel
theorem dX7_digest_216 : decode cX7_digest 216 = .ok (.getfield 266, 3) := by decide +kernel
theorem dX7_digest_219 : decode cX7_digest 219 = .ok (.lreturn, 1) := by decide +kernel
theorem dJxe99ae_isNaN_b9ae7_0 : decode cJxe99ae_isNaN_b9ae7 0 = .ok (.dload_n 0, 1) := by decide +kernel
theorem dJxe99ae_isNaN_b9ae7_1 : decode cJxe99ae_isNaN_b9ae7 1 = .ok (.dload_n 0, 1) := by decide +kernel
theorem dJxe99ae_isNaN_b9ae7_2 : decode cJxe99ae_isNaN_b9ae7 2 = .ok (.dcmp .l, 1) := by decide +kernel
theorem dJxe99ae_isNaN_b9ae7_3 : decode cJxe99ae_isNaN_b9ae7 3 = .ok (.ifCond .eq 7, 3) := by decide +kernel
theorem dJxe99ae_isNaN_b9ae7_6 : decode cJxe99ae_isNaN_b9ae7 6 = .ok (.iconst 1, 1) := by decide +kernel
theorem dJxe99ae_isNaN_b9ae7_7 : decode cJxe99ae_isNaN_b9ae7 7 = .ok (.goto 4, 3) := by decide +kernel
theorem dJxe99ae_isNaN_b9ae7_10 : decode cJxe99ae_isNaN_b9ae7 10 = .ok (.iconst 0, 1) := by decide +kernel
theorem dJxe99ae_isNaN_b9ae7_11 : decode cJxe99ae_isNaN_b9ae7 11 = .ok (.ireturn, 1) := by decide +kernel
theorem dJxe99ae_doubleToLongBits_ccdee_0 : decode cJxe99ae_doubleToLongBits_ccdee 0 = .ok (.dload_n 0, 1) := by decide +kernel
theorem dJxe99ae_doubleToLongBits_ccdee_1 : decode cJxe99ae_doubleToLongBits_ccdee 1 = .ok (.invokestatic 122, 3) := by decide +kernel
theorem dJxe99ae_doubleToLongBits_ccdee_4 : decode cJxe99ae_doubleToLongBits_ccdee 4 = .ok (.ifCond .ne 8, 3) := by decide +kernel
theorem dJxe99ae_doubleToLongBits_ccdee_7 : decode cJxe99ae_doubleToLongBits_ccdee 7 = .ok (.dload_n 0, 1) := by decide +kernel
theorem dJxe99ae_doubleToLongBits_ccdee_8 : decode cJxe99ae_doubleToLongBits_ccdee 8 = .ok (.invokestatic 134, 3) := by decide +kernel
theorem dJxe99ae_doubleToLongBits_ccdee_11 : decode cJxe99ae_doubleToLongBits_ccdee 11 = .ok (.lreturn, 1) := by decide +kernel
theorem dJxe99ae_doubleToLongBits_ccdee_12 : decode cJxe99ae_doubleToLongBits_ccdee 12 = .ok (.ldc2_w 137, 3) := by decide +kernel
theorem dJxe99ae_doubleToLongBits_ccdee_15 : decode cJxe99ae_doubleToLongBits_ccdee 15 = .ok (.lreturn, 1) := by decide +kernel
theorem dJ6_bitCount_0f7a4_0 : decode cJ6_bitCount_0f7a4 0 = .ok (.iload_n 0, 1) := by decide +kernel
theorem dJ6_bitCount_0f7a4_1 : decode cJ6_bitCount_0f7a4 1 = .ok (.iload_n 0, 1) := by decide +kernel
theorem dJ6_bitCount_0f7a4_2 : decode cJ6_bitCount_0f7a4 2 = .ok (.iconst 1, 1) := by decide +kernel
theorem dJ6_bitCount_0f7a4_3 : decode cJ6_bitCount_0f7a4 3 = .ok (.iushr, 1) := by decide +kernel
theorem dJ6_bitCount_0f7a4_4 : decode cJ6_bitCount_0f7a4 4 = .ok (.ldc_w 265, 3) := by decide +kernel
theorem dJ6_bitCount_0f7a4_7 : decode cJ6_bitCount_0f7a4 7 = .ok (.iand, 1) := by decide +kernel
theorem dJ6_bitCount_0f7a4_8 : decode cJ6_bitCount_0f7a4 8 = .ok (.isub, 1) := by decide +kernel
theorem dJ6_bitCount_0f7a4_9 : decode cJ6_bitCount_0f7a4 9 = .ok (.istore_n 0, 1) := by decide +kernel
theorem dJ6_bitCount_0f7a4_10 : decode cJ6_bitCount_0f7a4 10 = .ok (.iload_n 0, 1) := by decide +kernel
theorem dJ6_bitCount_0f7a4_11 : decode cJ6_bitCount_0f7a4 11 = .ok (.ldc_w 266, 3) := by decide +kernel
theorem dJ6_bitCount_0f7a4_14 : decode cJ6_bitCount_0f7a4 14 = .ok (.iand, 1) := by decide +kernel
theorem dJ6_bitCount_0f7a4_15 : decode cJ6_bitCount_0f7a4 15 = .ok (.iload_n 0, 1) := by decide +kernel
theorem dJ6_bitCount_0f7a4_16 : decode cJ6_bitCount_0f7a4 16 = .ok (.iconst 2, 1) := by decide +kernel
theorem dJ6_bitCount_0f7a4_17 : decode cJ6_bitCount_0f7a4 17 = .ok (.iushr, 1) := by decide +kernel
theorem dJ6_bitCount_0f7a4_18 : decode cJ6_bitCount_0f7a4 18 = .ok (.ldc_w 266, 3) := by decide +kernel
theorem dJ6_bitCount_0f7a4_21 : decode cJ6_bitCount_0f7a4 21 = .ok (.iand, 1) := by decide +kernel
theorem dJ6_bitCount_0f7a4_22 : decode cJ6_bitCount_0f7a4 22 = .ok (.iadd, 1) := by decide +kernel
theorem dJ6_bitCount_0f7a4_23 : decode cJ6_bitCount_0f7a4 23 = .ok (.istore_n 0, 1) := by decide +kernel
theorem dJ6_bitCount_0f7a4_24 : decode cJ6_bitCount_0f7a4 24 = .ok (.iload_n 0, 1) := by decide +kernel
theorem dJ6_bitCount_0f7a4_25 : decode cJ6_bitCount_0f7a4 25 = .ok (.iload_n 0, 1) := by decide +kernel
theorem dJ6_bitCount_0f7a4_26 : decode cJ6_bitCount_0f7a4 26 = .ok (.iconst 4, 1) := by decide +kernel
theorem dJ6_bitCount_0f7a4_27 : decode cJ6_bitCount_0f7a4 27 = .ok (.iushr, 1) := by decide +kernel
theorem dJ6_bitCount_0f7a4_28 : decode cJ6_bitCount_0f7a4 28 = .ok (.iadd, 1) := by decide +kernel
theorem dJ6_bitCount_0f7a4_29 : decode cJ6_bitCount_0f7a4 29 = .ok (.ldc_w 267, 3) := by decide +kernel
theorem dJ6_bitCount_0f7a4_32 : decode cJ6_bitCount_0f7a4 32 = .ok (.iand, 1) := by decide +kernel
theorem dJ6_bitCount_0f7a4_33 : decode cJ6_bitCount_0f7a4 33 = .ok (.istore_n 0, 1) := by decide +kernel
theorem dJ6_bitCount_0f7a4_34 : decode cJ6_bitCount_0f7a4 34 = .ok (.iload_n 0, 1) := by decide +kernel
theorem dJ6_bitCount_0f7a4_35 : decode cJ6_bitCount_0f7a4 35 = .ok (.iload_n 0, 1) := by decide +kernel
theorem dJ6_bitCount_0f7a4_36 : decode cJ6_bitCount_0f7a4 36 = .ok (.bipush 8, 2) := by decide +kernel
theorem dJ6_bitCount_0f7a4_38 : decode cJ6_bitCount_0f7a4 38 = .ok (.iushr, 1) := by decide +kernel
theorem dJ6_bitCount_0f7a4_39 : decode cJ6_bitCount_0f7a4 39 = .ok (.iadd, 1) := by decide +kernel
theorem dJ6_bitCount_0f7a4_40 : decode cJ6_bitCount_0f7a4 40 = .ok (.istore_n 0, 1) := by decide +kernel
theorem dJ6_bitCount_0f7a4_41 : decode cJ6_bitCount_0f7a4 41 = .ok (.iload_n 0, 1) := by decide +kernel
theorem dJ6_bitCount_0f7a4_42 : decode cJ6_bitCount_0f7a4 42 = .ok (.iload_n 0, 1) := by decide +kernel
theorem dJ6_bitCount_0f7a4_43 : decode cJ6_bitCount_0f7a4 43 = .ok (.bipush 16, 2) := by decide +kernel
theorem dJ6_bitCount_0f7a4_45 : decode cJ6_bitCount_0f7a4 45 = .ok (.iushr, 1) := by decide +kernel
theorem dJ6_bitCount_0f7a4_46 : decode cJ6_bitCount_0f7a4 46 = .ok (.iadd, 1) := by decide +kernel
theorem dJ6_bitCount_0f7a4_47 : decode cJ6_bitCount_0f7a4 47 = .ok (.istore_n 0, 1) := by decide +kernel
theorem dJ6_bitCount_0f7a4_48 : decode cJ6_bitCount_0f7a4 48 = .ok (.iload_n 0, 1) := by decide +kernel
theorem dJ6_bitCount_0f7a4_49 : decode cJ6_bitCount_0f7a4 49 = .ok (.bipush 63, 2) := by decide +kernel
theorem dJ6_bitCount_0f7a4_51 : decode cJ6_bitCount_0f7a4 51 = .ok (.iand, 1) := by decide +kernel
theorem dJ6_bitCount_0f7a4_52 : decode cJ6_bitCount_0f7a4 52 = .ok (.ireturn, 1) := by decide +kernel
theorem dJ13_compare_74951_0 : decode cJ13_compare_74951 0 = .ok (.lload_n 0, 1) := by decide +kernel
theorem dJ13_compare_74951_1 : decode cJ13_compare_74951 1 = .ok (.lload_n 2, 1) := by decide +kernel
theorem dJ13_compare_74951_2 : decode cJ13_compare_74951 2 = .ok (.lcmp, 1) := by decide +kernel
theorem dJ13_compare_74951_3 : decode cJ13_compare_74951 3 = .ok (.ifCond .ge 7, 3) := by decide +kernel
theorem dJ13_compare_74951_6 : decode cJ13_compare_74951 6 = .ok (.iconst (-1), 1) := by decide +kernel
theorem dJ13_compare_74951_7 : decode cJ13_compare_74951 7 = .ok (.goto 14, 3) := by decide +kernel
theorem dJ13_compare_74951_10 : decode cJ13_compare_74951 10 = .ok (.lload_n 0, 1) := by decide +kernel
theorem dJ13_compare_74951_11 : decode cJ13_compare_74951 11 = .ok (.lload_n 2, 1) := by decide +kernel
theorem dJ13_compare_74951_12 : decode cJ13_compare_74951 12 = .ok (.lcmp, 1) := by decide +kernel
theorem dJ13_compare_74951_13 : decode cJ13_compare_74951 13 = .ok (.ifCond .ne 7, 3) := by decide +kernel
theorem dJ13_compare_74951_16 : decode cJ13_compare_74951 16 = .ok (.iconst 0, 1) := by decide +kernel
theorem dJ13_compare_74951_17 : decode cJ13_compare_74951 17 = .ok (.goto 4, 3) := by decide +kernel
theorem dJ13_compare_74951_20 : decode cJ13_compare_74951 20 = .ok (.iconst 1, 1) := by decide +kernel
theorem dJ13_compare_74951_21 : decode cJ13_compare_74951 21 = .ok (.ireturn, 1) := by decide +kernel
theorem dJ9_abs_0f7a4_0 : decode cJ9_abs_0f7a4 0 = .ok (.iload_n 0, 1) := by decide +kernel
theorem dJ9_abs_0f7a4_1 : decode cJ9_abs_0f7a4 1 = .ok (.ifCond .ge 8, 3) := by decide +kernel
theorem dJ9_abs_0f7a4_4 : decode cJ9_abs_0f7a4 4 = .ok (.iload_n 0, 1) := by decide +kernel
theorem dJ9_abs_0f7a4_5 : decode cJ9_abs_0f7a4 5 = .ok (.ineg, 1) := by decide +kernel
theorem dJ9_abs_0f7a4_6 : decode cJ9_abs_0f7a4 6 = .ok (.goto 4, 3) := by decide +kernel
theorem dJ9_abs_0f7a4_9 : decode cJ9_abs_0f7a4 9 = .ok (.iload_n 0, 1) := by decide +kernel
theorem dJ9_abs_0f7a4_10 : decode cJ9_abs_0f7a4 10 = .ok (.ireturn, 1) := by decide +kernel
theorem dJ9_abs_067f4_0 : decode cJ9_abs_067f4 0 = .ok (.lload_n 0, 1) := by decide +kernel
theorem dJ9_abs_067f4_1 : decode cJ9_abs_067f4 1 = .ok (.lconst 0, 1) := by decide +kernel
theorem dJ9_abs_067f4_2 : decode cJ9_abs_067f4 2 = .ok (.lcmp, 1) := by decide +kernel
theorem dJ9_abs_067f4_3 : decode cJ9_abs_067f4 3 = .ok (.ifCond .ge 8, 3) := by decide +kernel
theorem dJ9_abs_067f4_6 : decode cJ9_abs_067f4 6 = .ok (.lload_n 0, 1) := by decide +kernel
theorem dJ9_abs_067f4_7 : decode cJ9_abs_067f4 7 = .ok (.lneg, 1) := by decide +kernel
theorem dJ9_abs_067f4_8 : decode cJ9_abs_067f4 8 = .ok (.goto 4, 3) := by decide +kernel
theorem dJ9_abs_067f4_11 : decode cJ9_abs_067f4 11 = .ok (.lload_n 0, 1) := by decide +kernel
theorem dJ9_abs_067f4_12 : decode cJ9_abs_067f4 12 = .ok (.lreturn, 1) := by decide +kernel
theorem dJ7_fill_d0a16_0 : decode cJ7_fill_d0a16 0 = .ok (.iconst 0, 1) := by decide +kernel
theorem dJ7_fill_d0a16_1 : decode cJ7_fill_d0a16 1 = .ok (.istore_n 3, 1) := by decide +kernel
theorem dJ7_fill_d0a16_2 : decode cJ7_fill_d0a16 2 = .ok (.aload_n 0, 1) := by decide +kernel
theorem dJ7_fill_d0a16_3 : decode cJ7_fill_d0a16 3 = .ok (.arraylength, 1) := by decide +kernel
theorem dJ7_fill_d0a16_4 : decode cJ7_fill_d0a16 4 = .ok (.istore 4, 2) := by decide +kernel
theorem dJ7_fill_d0a16_6 : decode cJ7_fill_d0a16 6 = .ok (.iload_n 3, 1) := by decide +kernel
theorem dJ7_fill_d0a16_7 : decode cJ7_fill_d0a16 7 = .ok (.iload 4, 2) := by decide +kernel
theorem dJ7_fill_d0a16_9 : decode cJ7_fill_d0a16 9 = .ok (.if_icmp .ge 13, 3) := by decide +kernel
theorem dJ7_fill_d0a16_12 : decode cJ7_fill_d0a16 12 = .ok (.aload_n 0, 1) := by decide +kernel
theorem dJ7_fill_d0a16_13 : decode cJ7_fill_d0a16 13 = .ok (.iload_n 3, 1) := by decide +kernel
theorem dJ7_fill_d0a16_14 : decode cJ7_fill_d0a16 14 = .ok (.lload_n 1, 1) := by decide +kernel
theorem dJ7_fill_d0a16_15 : decode cJ7_fill_d0a16 15 = .ok (.lastore, 1) := by decide +kernel
theorem dJ7_fill_d0a16_16 : decode cJ7_fill_d0a16 16 = .ok (.iinc 3 1, 3) := by decide +kernel
theorem dJ7_fill_d0a16_19 : decode cJ7_fill_d0a16 19 = .ok (.goto (-13), 3) := by decide +kernel
theorem dJ7_fill_d0a16_22 : decode cJ7_fill_d0a16 22 = .ok (.return_, 1) := by decide +kernel
theorem dL_load_0 : decode cL_load 0 = .ok (.aload_n 1, 1) := by decide +kernel
theorem dL_load_1 : decode cL_load 1 = .ok (.iconst 0, 1) := by decide +kernel
theorem dL_load_2 : decode cL_load 2 = .ok (.aload_n 0, 1) := by decide +kernel
theorem dL_load_3 : decode cL_load 3 = .ok (.invokevirtual 7, 3) := by decide +kernel
theorem dL_load_6 : decode cL_load 6 = .ok (.i2l, 1) := by decide +kernel
theorem dL_load_7 : decode cL_load 7 = .ok (.lastore, 1) := by decide +kernel
theorem dL_load_8 : decode cL_load 8 = .ok (.goto 9, 3) := by decide +kernel
theorem dL_load_11 : decode cL_load 11 = .ok (.astore_n 2, 1) := by decide +kernel
theorem dL_load_12 : decode cL_load 12 = .ok (.iconst 1, 1) := by decide +kernel
theorem dL_load_13 : decode cL_load 13 = .ok (.ireturn, 1) := by decide +kernel
theorem dL_load_14 : decode cL_load 14 = .ok (.astore_n 2, 1) := by decide +kernel
theorem dL_load_15 : decode cL_load 15 = .ok (.iconst 2, 1) := by decide +kernel
theorem dL_load_16 : decode cL_load 16 = .ok (.ireturn, 1) := by decide +kernel
theorem dL_load_17 : decode cL_load 17 = .ok (.iconst 0, 1) := by decide +kernel
theorem dL_load_18 : decode cL_load 18 = .ok (.ireturn, 1) := by decide +kernel
theorem dL_setValue_0 : decode cL_setValue 0 = .ok (.aload_n 3, 1) := by decide +kernel
theorem dL_setValue_1 : decode cL_setValue 1 = .ok (.iconst 0, 1) := by decide +kernel
theorem dL_setValue_2 : decode cL_setValue 2 = .ok (.aload_n 0, 1) := by decide +kernel
theorem dL_setValue_3 : decode cL_setValue 3 = .ok (.iload_n 1, 1) := by decide +kernel
theorem dL_setValue_4 : decode cL_setValue 4 = .ok (.iload_n 2, 1) := by decide +kernel
theorem dL_setValue_5 : decode cL_setValue 5 = .ok (.invokevirtual 17, 3) := by decide +kernel
theorem dL_setValue_8 : decode cL_setValue 8 = .ok (.i2l, 1) := by decide +kernel
theorem dL_setValue_9 : decode cL_setValue 9 = .ok (.lastore, 1) := by decide +kernel
theorem dL_setValue_10 : decode cL_setValue 10 = .ok (.goto 15, 3) := by decide +kernel
theorem dL_setValue_13 : decode cL_setValue 13 = .ok (.astore 4, 2) := by decide +kernel
theorem dL_setValue_15 : decode cL_setValue 15 = .ok (.iconst 1, 1) := by decide +kernel
theorem dL_setValue_16 : decode cL_setValue 16 = .ok (.ireturn, 1) := by decide +kernel
theorem dL_setValue_17 : decode cL_setValue 17 = .ok (.astore 4, 2) := by decide +kernel
theorem dL_setValue_19 : decode cL_setValue 19 = .ok (.iconst 2, 1) := by decide +kernel
theorem dL_setValue_20 : decode cL_setValue 20 = .ok (.ireturn, 1) := by decide +kernel
theorem dL_setValue_21 : decode cL_setValue 21 = .ok (.astore 4, 2) := by decide +kernel
theorem dL_setValue_23 : decode cL_setValue 23 = .ok (.iconst 3, 1) := by decide +kernel
theorem dL_setValue_24 : decode cL_setValue 24 = .ok (.ireturn, 1) := by decide +kernel
theorem dL_setValue_25 : decode cL_setValue 25 = .ok (.iconst 0, 1) := by decide +kernel
theorem dL_setValue_26 : decode cL_setValue 26 = .ok (.ireturn, 1) := by decide +kernel
theorem dL_setRail_0 : decode cL_setRail 0 = .ok (.aload_n 2, 1) := by decide +kernel
theorem dL_setRail_1 : decode cL_setRail 1 = .ok (.iconst 0, 1) := by decide +kernel
theorem dL_setRail_2 : decode cL_setRail 2 = .ok (.aload_n 0, 1) := by decide +kernel
theorem dL_setRail_3 : decode cL_setRail 3 = .ok (.iload_n 1, 1) := by decide +kernel
theorem dL_setRail_4 : decode cL_setRail 4 = .ok (.invokevirtual 23, 3) := by decide +kernel
theorem dL_setRail_7 : decode cL_setRail 7 = .ok (.i2l, 1) := by decide +kernel
theorem dL_setRail_8 : decode cL_setRail 8 = .ok (.lastore, 1) := by decide +kernel
theorem dL_setRail_9 : decode cL_setRail 9 = .ok (.goto 6, 3) := by decide +kernel
theorem dL_setRail_12 : decode cL_setRail 12 = .ok (.astore_n 3, 1) := by decide +kernel
theorem dL_setRail_13 : decode cL_setRail 13 = .ok (.iconst 1, 1) := by decide +kernel
theorem dL_setRail_14 : decode cL_setRail 14 = .ok (.ireturn, 1) := by decide +kernel
theorem dL_setRail_15 : decode cL_setRail 15 = .ok (.iconst 0, 1) := by decide +kernel
theorem dL_setRail_16 : decode cL_setRail 16 = .ok (.ireturn, 1) := by decide +kernel
theorem dL_drop_0 : decode cL_drop 0 = .ok (.aload_n 2, 1) := by decide +kernel
theorem dL_drop_1 : decode cL_drop 1 = .ok (.iconst 0, 1) := by decide +kernel
theorem dL_drop_2 : decode cL_drop 2 = .ok (.aload_n 0, 1) := by decide +kernel
theorem dL_drop_3 : decode cL_drop 3 = .ok (.iload_n 1, 1) := by decide +kernel
theorem dL_drop_4 : decode cL_drop 4 = .ok (.invokevirtual 27, 3) := by decide +kernel
theorem dL_drop_7 : decode cL_drop 7 = .ok (.i2l, 1) := by decide +kernel
theorem dL_drop_8 : decode cL_drop 8 = .ok (.lastore, 1) := by decide +kernel
theorem dL_drop_9 : decode cL_drop 9 = .ok (.goto 6, 3) := by decide +kernel
theorem dL_drop_12 : decode cL_drop 12 = .ok (.astore_n 3, 1) := by decide +kernel
theorem dL_drop_13 : decode cL_drop 13 = .ok (.iconst 1, 1) := by decide +kernel
theorem dL_drop_14 : decode cL_drop 14 = .ok (.ireturn, 1) := by decide +kernel
theorem dL_drop_15 : decode cL_drop 15 = .ok (.iconst 0, 1) := by decide +kernel
theorem dL_drop_16 : decode cL_drop 16 = .ok (.ireturn, 1) := by decide +kernel
theorem dL_sweep_0 : decode cL_sweep 0 = .ok (.aload_n 3, 1) := by decide +kernel
theorem dL_sweep_1 : decode cL_sweep 1 = .ok (.iconst 0, 1) := by decide +kernel
theorem dL_sweep_2 : decode cL_sweep 2 = .ok (.aload_n 0, 1) := by decide +kernel
theorem dL_sweep_3 : decode cL_sweep 3 = .ok (.iload_n 1, 1) := by decide +kernel
theorem dL_sweep_4 : decode cL_sweep 4 = .ok (.iload_n 2, 1) := by decide +kernel
theorem dL_sweep_5 : decode cL_sweep 5 = .ok (.invokevirtual 30, 3) := by decide +kernel
theorem dL_sweep_8 : decode cL_sweep 8 = .ok (.i2l, 1) := by decide +kernel
theorem dL_sweep_9 : decode cL_sweep 9 = .ok (.lastore, 1) := by decide +kernel
theorem dL_sweep_10 : decode cL_sweep 10 = .ok (.goto 15, 3) := by decide +kernel
theorem dL_sweep_13 : decode cL_sweep 13 = .ok (.astore 4, 2) := by decide +kernel
theorem dL_sweep_15 : decode cL_sweep 15 = .ok (.iconst 1, 1) := by decide +kernel
theorem dL_sweep_16 : decode cL_sweep 16 = .ok (.ireturn, 1) := by decide +kernel
theorem dL_sweep_17 : decode cL_sweep 17 = .ok (.astore 4, 2) := by decide +kernel
theorem dL_sweep_19 : decode cL_sweep 19 = .ok (.iconst 2, 1) := by decide +kernel
theorem dL_sweep_20 : decode cL_sweep 20 = .ok (.ireturn, 1) := by decide +kernel
theorem dL_sweep_21 : decode cL_sweep 21 = .ok (.astore 4, 2) := by decide +kernel
theorem dL_sweep_23 : decode cL_sweep 23 = .ok (.iconst 3, 1) := by decide +kernel
theorem dL_sweep_24 : decode cL_sweep 24 = .ok (.ireturn, 1) := by decide +kernel
theorem dL_sweep_25 : decode cL_sweep 25 = .ok (.iconst 0, 1) := by decide +kernel
theorem dL_sweep_26 : decode cL_sweep 26 = .ok (.ireturn, 1) := by decide +kernel
theorem dL_undo_0 : decode cL_undo 0 = .ok (.aload_n 1, 1) := by decide +kernel
theorem dL_undo_1 : decode cL_undo 1 = .ok (.iconst 0, 1) := by decide +kernel
theorem dL_undo_2 : decode cL_undo 2 = .ok (.aload_n 0, 1) := by decide +kernel
theorem dL_undo_3 : decode cL_undo 3 = .ok (.invokevirtual 33, 3) := by decide +kernel
theorem dL_undo_6 : decode cL_undo 6 = .ok (.i2l, 1) := by decide +kernel
theorem dL_undo_7 : decode cL_undo 7 = .ok (.lastore, 1) := by decide +kernel
theorem dL_undo_8 : decode cL_undo 8 = .ok (.goto 6, 3) := by decide +kernel
theorem dL_undo_11 : decode cL_undo 11 = .ok (.astore_n 2, 1) := by decide +kernel
theorem dL_undo_12 : decode cL_undo 12 = .ok (.iconst 1, 1) := by decide +kernel
theorem dL_undo_13 : decode cL_undo 13 = .ok (.ireturn, 1) := by decide +kernel
theorem dL_undo_14 : decode cL_undo 14 = .ok (.iconst 0, 1) := by decide +kernel
theorem dL_undo_15 : decode cL_undo 15 = .ok (.ireturn, 1) := by decide +kernel
theorem dL_keep_0 : decode cL_keep 0 = .ok (.aload_n 2, 1) := by decide +kernel
theorem dL_keep_1 : decode cL_keep 1 = .ok (.iconst 0, 1) := by decide +kernel
theorem dL_keep_2 : decode cL_keep 2 = .ok (.aload_n 0, 1) := by decide +kernel
theorem dL_keep_3 : decode cL_keep 3 = .ok (.iload_n 1, 1) := by decide +kernel
theorem dL_keep_4 : decode cL_keep 4 = .ok (.invokevirtual 36, 3) := by decide +kernel
theorem dL_keep_7 : decode cL_keep 7 = .ok (.i2l, 1) := by decide +kernel
theorem dL_keep_8 : decode cL_keep 8 = .ok (.lastore, 1) := by decide +kernel
theorem dL_keep_9 : decode cL_keep 9 = .ok (.goto 6, 3) := by decide +kernel
theorem dL_keep_12 : decode cL_keep 12 = .ok (.astore_n 3, 1) := by decide +kernel
theorem dL_keep_13 : decode cL_keep 13 = .ok (.iconst 1, 1) := by decide +kernel
theorem dL_keep_14 : decode cL_keep 14 = .ok (.ireturn, 1) := by decide +kernel
theorem dL_keep_15 : decode cL_keep 15 = .ok (.iconst 0, 1) := by decide +kernel
theorem dL_keep_16 : decode cL_keep 16 = .ok (.ireturn, 1) := by decide +kernel
theorem dL_back_0 : decode cL_back 0 = .ok (.aload_n 2, 1) := by decide +kernel
theorem dL_back_1 : decode cL_back 1 = .ok (.iconst 0, 1) := by decide +kernel
theorem dL_back_2 : decode cL_back 2 = .ok (.aload_n 0, 1) := by decide +kernel
theorem dL_back_3 : decode cL_back 3 = .ok (.iload_n 1, 1) := by decide +kernel
theorem dL_back_4 : decode cL_back 4 = .ok (.invokevirtual 39, 3) := by decide +kernel
theorem dL_back_7 : decode cL_back 7 = .ok (.i2l, 1) := by decide +kernel
theorem dL_back_8 : decode cL_back 8 = .ok (.lastore, 1) := by decide +kernel
theorem dL_back_9 : decode cL_back 9 = .ok (.goto 9, 3) := by decide +kernel
theorem dL_back_12 : decode cL_back 12 = .ok (.astore_n 3, 1) := by decide +kernel
theorem dL_back_13 : decode cL_back 13 = .ok (.iconst 1, 1) := by decide +kernel
theorem dL_back_14 : decode cL_back 14 = .ok (.ireturn, 1) := by decide +kernel
theorem dL_back_15 : decode cL_back 15 = .ok (.astore_n 3, 1) := by decide +kernel
theorem dL_back_16 : decode cL_back 16 = .ok (.iconst 2, 1) := by decide +kernel
theorem dL_back_17 : decode cL_back 17 = .ok (.ireturn, 1) := by decide +kernel
theorem dL_back_18 : decode cL_back 18 = .ok (.iconst 0, 1) := by decide +kernel
theorem dL_back_19 : decode cL_back 19 = .ok (.ireturn, 1) := by decide +kernel
theorem dL_append_0 : decode cL_append 0 = .ok (.aload_n 2, 1) := by decide +kernel
theorem dL_append_1 : decode cL_append 1 = .ok (.iconst 0, 1) := by decide +kernel
theorem dL_append_2 : decode cL_append 2 = .ok (.aload_n 0, 1) := by decide +kernel
theorem dL_append_3 : decode cL_append 3 = .ok (.iload_n 1, 1) := by decide +kernel
theorem dL_append_4 : decode cL_append 4 = .ok (.invokevirtual 42, 3) := by decide +kernel
theorem dL_append_7 : decode cL_append 7 = .ok (.i2l, 1) := by decide +kernel
theorem dL_append_8 : decode cL_append 8 = .ok (.lastore, 1) := by decide +kernel
theorem dL_append_9 : decode cL_append 9 = .ok (.goto 9, 3) := by decide +kernel
theorem dL_append_12 : decode cL_append 12 = .ok (.astore_n 3, 1) := by decide +kernel
theorem dL_append_13 : decode cL_append 13 = .ok (.iconst 1, 1) := by decide +kernel
theorem dL_append_14 : decode cL_append 14 = .ok (.ireturn, 1) := by decide +kernel
theorem dL_append_15 : decode cL_append 15 = .ok (.astore_n 3, 1) := by decide +kernel
theorem dL_append_16 : decode cL_append 16 = .ok (.iconst 2, 1) := by decide +kernel
theorem dL_append_17 : decode cL_append 17 = .ok (.ireturn, 1) := by decide +kernel
theorem dL_append_18 : decode cL_append 18 = .ok (.iconst 0, 1) := by decide +kernel
theorem dL_append_19 : decode cL_append 19 = .ok (.ireturn, 1) := by decide +kernel
theorem dL_voltage_0 : decode cL_voltage 0 = .ok (.aload_n 3, 1) := by decide +kernel
theorem dL_voltage_1 : decode cL_voltage 1 = .ok (.iconst 0, 1) := by decide +kernel
theorem dL_voltage_2 : decode cL_voltage 2 = .ok (.aload_n 0, 1) := by decide +kernel
theorem dL_voltage_3 : decode cL_voltage 3 = .ok (.iload_n 1, 1) := by decide +kernel
theorem dL_voltage_4 : decode cL_voltage 4 = .ok (.iload_n 2, 1) := by decide +kernel
theorem dL_voltage_5 : decode cL_voltage 5 = .ok (.invokevirtual 45, 3) := by decide +kernel
theorem dL_voltage_8 : decode cL_voltage 8 = .ok (.lastore, 1) := by decide +kernel
theorem dL_voltage_9 : decode cL_voltage 9 = .ok (.goto 11, 3) := by decide +kernel
theorem dL_voltage_12 : decode cL_voltage 12 = .ok (.astore 4, 2) := by decide +kernel
theorem dL_voltage_14 : decode cL_voltage 14 = .ok (.iconst 1, 1) := by decide +kernel
theorem dL_voltage_15 : decode cL_voltage 15 = .ok (.ireturn, 1) := by decide +kernel
theorem dL_voltage_16 : decode cL_voltage 16 = .ok (.astore 4, 2) := by decide +kernel
theorem dL_voltage_18 : decode cL_voltage 18 = .ok (.iconst 2, 1) := by decide +kernel
theorem dL_voltage_19 : decode cL_voltage 19 = .ok (.ireturn, 1) := by decide +kernel
theorem dL_voltage_20 : decode cL_voltage 20 = .ok (.iconst 0, 1) := by decide +kernel
theorem dL_voltage_21 : decode cL_voltage 21 = .ok (.ireturn, 1) := by decide +kernel
theorem dL_current_0 : decode cL_current 0 = .ok (.aload_n 3, 1) := by decide +kernel
theorem dL_current_1 : decode cL_current 1 = .ok (.iconst 0, 1) := by decide +kernel
theorem dL_current_2 : decode cL_current 2 = .ok (.aload_n 0, 1) := by decide +kernel
theorem dL_current_3 : decode cL_current 3 = .ok (.iload_n 1, 1) := by decide +kernel
theorem dL_current_4 : decode cL_current 4 = .ok (.iload_n 2, 1) := by decide +kernel
theorem dL_current_5 : decode cL_current 5 = .ok (.invokevirtual 49, 3) := by decide +kernel
theorem dL_current_8 : decode cL_current 8 = .ok (.lastore, 1) := by decide +kernel
theorem dL_current_9 : decode cL_current 9 = .ok (.goto 15, 3) := by decide +kernel
theorem dL_current_12 : decode cL_current 12 = .ok (.astore 4, 2) := by decide +kernel
theorem dL_current_14 : decode cL_current 14 = .ok (.iconst 1, 1) := by decide +kernel
theorem dL_current_15 : decode cL_current 15 = .ok (.ireturn, 1) := by decide +kernel
theorem dL_current_16 : decode cL_current 16 = .ok (.astore 4, 2) := by decide +kernel
theorem dL_current_18 : decode cL_current 18 = .ok (.iconst 2, 1) := by decide +kernel
theorem dL_current_19 : decode cL_current 19 = .ok (.ireturn, 1) := by decide +kernel
theorem dL_current_20 : decode cL_current 20 = .ok (.astore 4, 2) := by decide +kernel
theorem dL_current_22 : decode cL_current 22 = .ok (.iconst 3, 1) := by decide +kernel
theorem dL_current_23 : decode cL_current 23 = .ok (.ireturn, 1) := by decide +kernel
theorem dL_current_24 : decode cL_current 24 = .ok (.iconst 0, 1) := by decide +kernel
theorem dL_current_25 : decode cL_current 25 = .ok (.ireturn, 1) := by decide +kernel
theorem dL_amplifier_0 : decode cL_amplifier 0 = .ok (.aload_n 3, 1) := by decide +kernel
theorem dL_amplifier_1 : decode cL_amplifier 1 = .ok (.iconst 0, 1) := by decide +kernel
theorem dL_amplifier_2 : decode cL_amplifier 2 = .ok (.aload_n 0, 1) := by decide +kernel
theorem dL_amplifier_3 : decode cL_amplifier 3 = .ok (.iload_n 1, 1) := by decide +kernel
theorem dL_amplifier_4 : decode cL_amplifier 4 = .ok (.iload_n 2, 1) := by decide +kernel
theorem dL_amplifier_5 : decode cL_amplifier 5 = .ok (.invokevirtual 52, 3) := by decide +kernel
theorem dL_amplifier_8 : decode cL_amplifier 8 = .ok (.i2l, 1) := by decide +kernel
theorem dL_amplifier_9 : decode cL_amplifier 9 = .ok (.lastore, 1) := by decide +kernel
theorem dL_amplifier_10 : decode cL_amplifier 10 = .ok (.goto 11, 3) := by decide +kernel
theorem dL_amplifier_13 : decode cL_amplifier 13 = .ok (.astore 4, 2) := by decide +kernel
theorem dL_amplifier_15 : decode cL_amplifier 15 = .ok (.iconst 1, 1) := by decide +kernel
theorem dL_amplifier_16 : decode cL_amplifier 16 = .ok (.ireturn, 1) := by decide +kernel
theorem dL_amplifier_17 : decode cL_amplifier 17 = .ok (.astore 4, 2) := by decide +kernel
theorem dL_amplifier_19 : decode cL_amplifier 19 = .ok (.iconst 2, 1) := by decide +kernel
theorem dL_amplifier_20 : decode cL_amplifier 20 = .ok (.ireturn, 1) := by decide +kernel
theorem dL_amplifier_21 : decode cL_amplifier 21 = .ok (.iconst 0, 1) := by decide +kernel
theorem dL_amplifier_22 : decode cL_amplifier 22 = .ok (.ireturn, 1) := by decide +kernel
theorem dL_why_0 : decode cL_why 0 = .ok (.aload_n 2, 1) := by decide +kernel
theorem dL_why_1 : decode cL_why 1 = .ok (.iconst 0, 1) := by decide +kernel
theorem dL_why_2 : decode cL_why 2 = .ok (.aload_n 0, 1) := by decide +kernel
theorem dL_why_3 : decode cL_why 3 = .ok (.iload_n 1, 1) := by decide +kernel
theorem dL_why_4 : decode cL_why 4 = .ok (.invokevirtual 55, 3) := by decide +kernel
theorem dL_why_7 : decode cL_why 7 = .ok (.i2l, 1) := by decide +kernel
theorem dL_why_8 : decode cL_why 8 = .ok (.lastore, 1) := by decide +kernel
theorem dL_why_9 : decode cL_why 9 = .ok (.goto 6, 3) := by decide +kernel
theorem dL_why_12 : decode cL_why 12 = .ok (.astore_n 3, 1) := by decide +kernel
theorem dL_why_13 : decode cL_why 13 = .ok (.iconst 1, 1) := by decide +kernel
theorem dL_why_14 : decode cL_why 14 = .ok (.ireturn, 1) := by decide +kernel
theorem dL_why_15 : decode cL_why 15 = .ok (.iconst 0, 1) := by decide +kernel
theorem dL_why_16 : decode cL_why 16 = .ok (.ireturn, 1) := by decide +kernel
theorem dL_concerned_0 : decode cL_concerned 0 = .ok (.aload_n 2, 1) := by decide +kernel
theorem dL_concerned_1 : decode cL_concerned 1 = .ok (.iconst 0, 1) := by decide +kernel
theorem dL_concerned_2 : decode cL_concerned 2 = .ok (.aload_n 0, 1) := by decide +kernel
theorem dL_concerned_3 : decode cL_concerned 3 = .ok (.iload_n 1, 1) := by decide +kernel
theorem dL_concerned_4 : decode cL_concerned 4 = .ok (.invokevirtual 58, 3) := by decide +kernel
theorem dL_concerned_7 : decode cL_concerned 7 = .ok (.i2l, 1) := by decide +kernel
theorem dL_concerned_8 : decode cL_concerned 8 = .ok (.lastore, 1) := by decide +kernel
theorem dL_concerned_9 : decode cL_concerned 9 = .ok (.goto 6, 3) := by decide +kernel
theorem dL_concerned_12 : decode cL_concerned 12 = .ok (.astore_n 3, 1) := by decide +kernel
theorem dL_concerned_13 : decode cL_concerned 13 = .ok (.iconst 1, 1) := by decide +kernel
theorem dL_concerned_14 : decode cL_concerned 14 = .ok (.ireturn, 1) := by decide +kernel
theorem dL_concerned_15 : decode cL_concerned 15 = .ok (.iconst 0, 1) := by decide +kernel
theorem dL_concerned_16 : decode cL_concerned 16 = .ok (.ireturn, 1) := by decide +kernel
theorem dL_inCase_0 : decode cL_inCase 0 = .ok (.aload 4, 2) := by decide +kernel
theorem dL_inCase_2 : decode cL_inCase 2 = .ok (.iconst 0, 1) := by decide +kernel
theorem dL_inCase_3 : decode cL_inCase 3 = .ok (.aload_n 0, 1) := by decide +kernel
theorem dL_inCase_4 : decode cL_inCase 4 = .ok (.iload_n 1, 1) := by decide +kernel
theorem dL_inCase_5 : decode cL_inCase 5 = .ok (.iload_n 2, 1) := by decide +kernel
theorem dL_inCase_6 : decode cL_inCase 6 = .ok (.iload_n 3, 1) := by decide +kernel
theorem dL_inCase_7 : decode cL_inCase 7 = .ok (.invokevirtual 61, 3) := by decide +kernel
theorem dL_inCase_10 : decode cL_inCase 10 = .ok (.lastore, 1) := by decide +kernel
theorem dL_inCase_11 : decode cL_inCase 11 = .ok (.goto 11, 3) := by decide +kernel
theorem dL_inCase_14 : decode cL_inCase 14 = .ok (.astore 5, 2) := by decide +kernel
theorem dL_inCase_16 : decode cL_inCase 16 = .ok (.iconst 1, 1) := by decide +kernel
theorem dL_inCase_17 : decode cL_inCase 17 = .ok (.ireturn, 1) := by decide +kernel
theorem dL_inCase_18 : decode cL_inCase 18 = .ok (.astore 5, 2) := by decide +kernel
theorem dL_inCase_20 : decode cL_inCase 20 = .ok (.iconst 2, 1) := by decide +kernel
theorem dL_inCase_21 : decode cL_inCase 21 = .ok (.ireturn, 1) := by decide +kernel
theorem dL_inCase_22 : decode cL_inCase 22 = .ok (.iconst 0, 1) := by decide +kernel
theorem dL_inCase_23 : decode cL_inCase 23 = .ok (.ireturn, 1) := by decide +kernel
theorem dL_trip_0 : decode cL_trip 0 = .ok (.aload_n 3, 1) := by decide +kernel
theorem dL_trip_1 : decode cL_trip 1 = .ok (.iconst 0, 1) := by decide +kernel
theorem dL_trip_2 : decode cL_trip 2 = .ok (.aload_n 0, 1) := by decide +kernel
theorem dL_trip_3 : decode cL_trip 3 = .ok (.iload_n 1, 1) := by decide +kernel
theorem dL_trip_4 : decode cL_trip 4 = .ok (.iload_n 2, 1) := by decide +kernel
theorem dL_trip_5 : decode cL_trip 5 = .ok (.invokevirtual 65, 3) := by decide +kernel
theorem dL_trip_8 : decode cL_trip 8 = .ok (.i2l, 1) := by decide +kernel
theorem dL_trip_9 : decode cL_trip 9 = .ok (.lastore, 1) := by decide +kernel
theorem dL_trip_10 : decode cL_trip 10 = .ok (.goto 11, 3) := by decide +kernel
theorem dL_trip_13 : decode cL_trip 13 = .ok (.astore 4, 2) := by decide +kernel
theorem dL_trip_15 : decode cL_trip 15 = .ok (.iconst 1, 1) := by decide +kernel
theorem dL_trip_16 : decode cL_trip 16 = .ok (.ireturn, 1) := by decide +kernel
theorem dL_trip_17 : decode cL_trip 17 = .ok (.astore 4, 2) := by decide +kernel
theorem dL_trip_19 : decode cL_trip 19 = .ok (.iconst 2, 1) := by decide +kernel
theorem dL_trip_20 : decode cL_trip 20 = .ok (.ireturn, 1) := by decide +kernel
theorem dL_trip_21 : decode cL_trip 21 = .ok (.iconst 0, 1) := by decide +kernel
theorem dL_trip_22 : decode cL_trip 22 = .ok (.ireturn, 1) := by decide +kernel
theorem dL_ifValue_0 : decode cL_ifValue 0 = .ok (.aload_n 3, 1) := by decide +kernel
theorem dL_ifValue_1 : decode cL_ifValue 1 = .ok (.iconst 0, 1) := by decide +kernel
theorem dL_ifValue_2 : decode cL_ifValue 2 = .ok (.aload_n 0, 1) := by decide +kernel
theorem dL_ifValue_3 : decode cL_ifValue 3 = .ok (.iload_n 1, 1) := by decide +kernel
theorem dL_ifValue_4 : decode cL_ifValue 4 = .ok (.iload_n 2, 1) := by decide +kernel
theorem dL_ifValue_5 : decode cL_ifValue 5 = .ok (.invokevirtual 69, 3) := by decide +kernel
theorem dL_ifValue_8 : decode cL_ifValue 8 = .ok (.i2l, 1) := by decide +kernel
theorem dL_ifValue_9 : decode cL_ifValue 9 = .ok (.lastore, 1) := by decide +kernel
theorem dL_ifValue_10 : decode cL_ifValue 10 = .ok (.goto 15, 3) := by decide +kernel
theorem dL_ifValue_13 : decode cL_ifValue 13 = .ok (.astore 4, 2) := by decide +kernel
theorem dL_ifValue_15 : decode cL_ifValue 15 = .ok (.iconst 1, 1) := by decide +kernel
theorem dL_ifValue_16 : decode cL_ifValue 16 = .ok (.ireturn, 1) := by decide +kernel
theorem dL_ifValue_17 : decode cL_ifValue 17 = .ok (.astore 4, 2) := by decide +kernel
theorem dL_ifValue_19 : decode cL_ifValue 19 = .ok (.iconst 2, 1) := by decide +kernel
theorem dL_ifValue_20 : decode cL_ifValue 20 = .ok (.ireturn, 1) := by decide +kernel
theorem dL_ifValue_21 : decode cL_ifValue 21 = .ok (.astore 4, 2) := by decide +kernel
theorem dL_ifValue_23 : decode cL_ifValue 23 = .ok (.iconst 3, 1) := by decide +kernel
theorem dL_ifValue_24 : decode cL_ifValue 24 = .ok (.ireturn, 1) := by decide +kernel
theorem dL_ifValue_25 : decode cL_ifValue 25 = .ok (.iconst 0, 1) := by decide +kernel
theorem dL_ifValue_26 : decode cL_ifValue 26 = .ok (.ireturn, 1) := by decide +kernel
theorem dL_part_0 : decode cL_part 0 = .ok (.aload_n 3, 1) := by decide +kernel
theorem dL_part_1 : decode cL_part 1 = .ok (.iconst 0, 1) := by decide +kernel
theorem dL_part_2 : decode cL_part 2 = .ok (.aload_n 0, 1) := by decide +kernel
theorem dL_part_3 : decode cL_part 3 = .ok (.iload_n 1, 1) := by decide +kernel
theorem dL_part_4 : decode cL_part 4 = .ok (.iload_n 2, 1) := by decide +kernel
theorem dL_part_5 : decode cL_part 5 = .ok (.invokevirtual 72, 3) := by decide +kernel
theorem dL_part_8 : decode cL_part 8 = .ok (.i2l, 1) := by decide +kernel
theorem dL_part_9 : decode cL_part 9 = .ok (.lastore, 1) := by decide +kernel
theorem dL_part_10 : decode cL_part 10 = .ok (.goto 11, 3) := by decide +kernel
theorem dL_part_13 : decode cL_part 13 = .ok (.astore 4, 2) := by decide +kernel
theorem dL_part_15 : decode cL_part 15 = .ok (.iconst 1, 1) := by decide +kernel
theorem dL_part_16 : decode cL_part 16 = .ok (.ireturn, 1) := by decide +kernel
theorem dL_part_17 : decode cL_part 17 = .ok (.astore 4, 2) := by decide +kernel
theorem dL_part_19 : decode cL_part 19 = .ok (.iconst 2, 1) := by decide +kernel
theorem dL_part_20 : decode cL_part 20 = .ok (.ireturn, 1) := by decide +kernel
theorem dL_part_21 : decode cL_part 21 = .ok (.iconst 0, 1) := by decide +kernel
theorem dL_part_22 : decode cL_part 22 = .ok (.ireturn, 1) := by decide +kernel
theorem dL_count_0 : decode cL_count 0 = .ok (.aload_n 2, 1) := by decide +kernel
theorem dL_count_1 : decode cL_count 1 = .ok (.iconst 0, 1) := by decide +kernel
theorem dL_count_2 : decode cL_count 2 = .ok (.aload_n 0, 1) := by decide +kernel
theorem dL_count_3 : decode cL_count 3 = .ok (.iload_n 1, 1) := by decide +kernel
theorem dL_count_4 : decode cL_count 4 = .ok (.invokevirtual 75, 3) := by decide +kernel
theorem dL_count_7 : decode cL_count 7 = .ok (.i2l, 1) := by decide +kernel
theorem dL_count_8 : decode cL_count 8 = .ok (.lastore, 1) := by decide +kernel
theorem dL_count_9 : decode cL_count 9 = .ok (.goto 6, 3) := by decide +kernel
theorem dL_count_12 : decode cL_count 12 = .ok (.astore_n 3, 1) := by decide +kernel
theorem dL_count_13 : decode cL_count 13 = .ok (.iconst 1, 1) := by decide +kernel
theorem dL_count_14 : decode cL_count 14 = .ok (.ireturn, 1) := by decide +kernel
theorem dL_count_15 : decode cL_count 15 = .ok (.iconst 0, 1) := by decide +kernel
theorem dL_count_16 : decode cL_count 16 = .ok (.ireturn, 1) := by decide +kernel
theorem dL_law_0 : decode cL_law 0 = .ok (.new 8, 3) := by decide +kernel
theorem dL_law_3 : decode cL_law 3 = .ok (.dup, 1) := by decide +kernel
theorem dL_law_4 : decode cL_law 4 = .ok (.invokespecial 78, 3) := by decide +kernel
theorem dL_law_7 : decode cL_law 7 = .ok (.astore_n 1, 1) := by decide +kernel
theorem dL_law_8 : decode cL_law 8 = .ok (.new 79, 3) := by decide +kernel
theorem dL_law_11 : decode cL_law 11 = .ok (.dup, 1) := by decide +kernel
theorem dL_law_12 : decode cL_law 12 = .ok (.invokespecial 81, 3) := by decide +kernel
theorem dL_law_15 : decode cL_law 15 = .ok (.astore_n 2, 1) := by decide +kernel
theorem dL_law_16 : decode cL_law 16 = .ok (.iconst 1, 1) := by decide +kernel
theorem dL_law_17 : decode cL_law 17 = .ok (.newarray .long, 2) := by decide +kernel
theorem dL_law_19 : decode cL_law 19 = .ok (.astore_n 3, 1) := by decide +kernel
theorem dL_law_20 : decode cL_law 20 = .ok (.iconst 0, 1) := by decide +kernel
theorem dL_law_21 : decode cL_law 21 = .ok (.istore 4, 2) := by decide +kernel
theorem dL_law_23 : decode cL_law 23 = .ok (.iload 4, 2) := by decide +kernel
theorem dL_law_25 : decode cL_law 25 = .ok (.aload_n 0, 1) := by decide +kernel
theorem dL_law_26 : decode cL_law 26 = .ok (.arraylength, 1) := by decide +kernel
theorem dL_law_27 : decode cL_law 27 = .ok (.iconst 4, 1) := by decide +kernel
theorem dL_law_28 : decode cL_law 28 = .ok (.isub, 1) := by decide +kernel
theorem dL_law_29 : decode cL_law 29 = .ok (.if_icmp .gt 1392, 3) := by decide +kernel
theorem dL_law_32 : decode cL_law 32 = .ok (.aload_n 0, 1) := by decide +kernel
theorem dL_law_33 : decode cL_law 33 = .ok (.iload 4, 2) := by decide +kernel
theorem dL_law_35 : decode cL_law 35 = .ok (.iaload, 1) := by decide +kernel
theorem dL_law_36 : decode cL_law 36 = .ok (.bipush 31, 2) := by decide +kernel
theorem dL_law_38 : decode cL_law 38 = .ok (.iand, 1) := by decide +kernel
theorem dL_law_39 : decode cL_law 39 = .ok (.tableswitch 1376 0 23 #[109, 122, 166, 234, 290, 346, 414, 458, 514, 570, 626, 639, 652, 719, 786, 854, 910, 966, 1045, 1129, 1197, 1265, 1321, 1362], 109) := by decide +kernel
theorem dL_law_148 : decode cL_law 148 = .ok (.aload_n 1, 1) := by decide +kernel
theorem dL_law_149 : decode cL_law 149 = .ok (.invokevirtual 82, 3) := by decide +kernel
theorem dL_law_152 : decode cL_law 152 = .ok (.aload_n 2, 1) := by decide +kernel
theorem dL_law_153 : decode cL_law 153 = .ok (.invokevirtual 85, 3) := by decide +kernel
theorem dL_law_156 : decode cL_law 156 = .ok (.if_icmp .eq 1259, 3) := by decide +kernel
theorem dL_law_159 : decode cL_law 159 = .ok (.iconst 0, 1) := by decide +kernel
theorem dL_law_160 : decode cL_law 160 = .ok (.ireturn, 1) := by decide +kernel
theorem dL_law_161 : decode cL_law 161 = .ok (.aload_n 1, 1) := by decide +kernel
theorem dL_law_162 : decode cL_law 162 = .ok (.aload_n 3, 1) := by decide +kernel
theorem dL_law_163 : decode cL_law 163 = .ok (.invokestatic 86, 3) := by decide +kernel
theorem dL_law_166 : decode cL_law 166 = .ok (.istore 5, 2) := by decide +kernel
theorem dL_law_168 : decode cL_law 168 = .ok (.aload_n 2, 1) := by decide +kernel
theorem dL_law_169 : decode cL_law 169 = .ok (.invokevirtual 91, 3) := by decide +kernel
theorem dL_law_172 : decode cL_law 172 = .ok (.istore 6, 2) := by decide +kernel
theorem dL_law_174 : decode cL_law 174 = .ok (.aload_n 2, 1) := by decide +kernel
theorem dL_law_175 : decode cL_law 175 = .ok (.invokevirtual 92, 3) := by decide +kernel
theorem dL_law_178 : decode cL_law 178 = .ok (.iload 5, 2) := by decide +kernel
theorem dL_law_180 : decode cL_law 180 = .ok (.if_icmp .eq 5, 3) := by decide +kernel
theorem dL_law_183 : decode cL_law 183 = .ok (.iconst 0, 1) := by decide +kernel
theorem dL_law_184 : decode cL_law 184 = .ok (.ireturn, 1) := by decide +kernel
theorem dL_law_185 : decode cL_law 185 = .ok (.iload 5, 2) := by decide +kernel
theorem dL_law_187 : decode cL_law 187 = .ok (.ifCond .ne 15, 3) := by decide +kernel
theorem dL_law_190 : decode cL_law 190 = .ok (.aload_n 3, 1) := by decide +kernel
theorem dL_law_191 : decode cL_law 191 = .ok (.iconst 0, 1) := by decide +kernel
theorem dL_law_192 : decode cL_law 192 = .ok (.laload, 1) := by decide +kernel
theorem dL_law_193 : decode cL_law 193 = .ok (.iload 6, 2) := by decide +kernel
theorem dL_law_195 : decode cL_law 195 = .ok (.i2l, 1) := by decide +kernel
theorem dL_law_196 : decode cL_law 196 = .ok (.lcmp, 1) := by decide +kernel
theorem dL_law_197 : decode cL_law 197 = .ok (.ifCond .eq 5, 3) := by decide +kernel
theorem dL_law_200 : decode cL_law 200 = .ok (.iconst 0, 1) := by decide +kernel
theorem dL_law_201 : decode cL_law 201 = .ok (.ireturn, 1) := by decide +kernel
theorem dL_law_202 : decode cL_law 202 = .ok (.goto 1213, 3) := by decide +kernel
theorem dL_law_205 : decode cL_law 205 = .ok (.aload_n 1, 1) := by decide +kernel
theorem dL_law_206 : decode cL_law 206 = .ok (.aload_n 0, 1) := by decide +kernel
theorem dL_law_207 : decode cL_law 207 = .ok (.iload 4, 2) := by decide +kernel
theorem dL_law_209 : decode cL_law 209 = .ok (.iconst 1, 1) := by decide +kernel
theorem dL_law_210 : decode cL_law 210 = .ok (.iadd, 1) := by decide +kernel
theorem dL_law_211 : decode cL_law 211 = .ok (.iaload, 1) := by decide +kernel
theorem dL_law_212 : decode cL_law 212 = .ok (.aload_n 0, 1) := by decide +kernel
theorem dL_law_213 : decode cL_law 213 = .ok (.iload 4, 2) := by decide +kernel
theorem dL_law_215 : decode cL_law 215 = .ok (.iconst 2, 1) := by decide +kernel
theorem dL_law_216 : decode cL_law 216 = .ok (.iadd, 1) := by decide +kernel
theorem dL_law_217 : decode cL_law 217 = .ok (.iaload, 1) := by decide +kernel
theorem dL_law_218 : decode cL_law 218 = .ok (.aload_n 3, 1) := by decide +kernel
theorem dL_law_219 : decode cL_law 219 = .ok (.invokestatic 95, 3) := by decide +kernel
theorem dL_law_222 : decode cL_law 222 = .ok (.istore 5, 2) := by decide +kernel
theorem dL_law_224 : decode cL_law 224 = .ok (.aload_n 2, 1) := by decide +kernel
theorem dL_law_225 : decode cL_law 225 = .ok (.aload_n 0, 1) := by decide +kernel
theorem dL_law_226 : decode cL_law 226 = .ok (.iload 4, 2) := by decide +kernel
theorem dL_law_228 : decode cL_law 228 = .ok (.iconst 1, 1) := by decide +kernel
theorem dL_law_229 : decode cL_law 229 = .ok (.iadd, 1) := by decide +kernel
theorem dL_law_230 : decode cL_law 230 = .ok (.iaload, 1) := by decide +kernel
theorem dL_law_231 : decode cL_law 231 = .ok (.aload_n 0, 1) := by decide +kernel
theorem dL_law_232 : decode cL_law 232 = .ok (.iload 4, 2) := by decide +kernel
theorem dL_law_234 : decode cL_law 234 = .ok (.iconst 2, 1) := by decide +kernel
theorem dL_law_235 : decode cL_law 235 = .ok (.iadd, 1) := by decide +kernel
theorem dL_law_236 : decode cL_law 236 = .ok (.iaload, 1) := by decide +kernel
theorem dL_law_237 : decode cL_law 237 = .ok (.invokevirtual 98, 3) := by decide +kernel
theorem dL_law_240 : decode cL_law 240 = .ok (.istore 6, 2) := by decide +kernel
theorem dL_law_242 : decode cL_law 242 = .ok (.aload_n 2, 1) := by decide +kernel
theorem dL_law_243 : decode cL_law 243 = .ok (.invokevirtual 92, 3) := by decide +kernel
theorem dL_law_246 : decode cL_law 246 = .ok (.iload 5, 2) := by decide +kernel
theorem dL_law_248 : decode cL_law 248 = .ok (.if_icmp .eq 5, 3) := by decide +kernel
theorem dL_law_251 : decode cL_law 251 = .ok (.iconst 0, 1) := by decide +kernel
theorem dL_law_252 : decode cL_law 252 = .ok (.ireturn, 1) := by decide +kernel
theorem dL_law_253 : decode cL_law 253 = .ok (.iload 5, 2) := by decide +kernel
theorem dL_law_255 : decode cL_law 255 = .ok (.ifCond .ne 15, 3) := by decide +kernel
theorem dL_law_258 : decode cL_law 258 = .ok (.aload_n 3, 1) := by decide +kernel
theorem dL_law_259 : decode cL_law 259 = .ok (.iconst 0, 1) := by decide +kernel
theorem dL_law_260 : decode cL_law 260 = .ok (.laload, 1) := by decide +kernel
theorem dL_law_261 : decode cL_law 261 = .ok (.iload 6, 2) := by decide +kernel
theorem dL_law_263 : decode cL_law 263 = .ok (.i2l, 1) := by decide +kernel
theorem dL_law_264 : decode cL_law 264 = .ok (.lcmp, 1) := by decide +kernel
theorem dL_law_265 : decode cL_law 265 = .ok (.ifCond .eq 5, 3) := by decide +kernel
theorem dL_law_268 : decode cL_law 268 = .ok (.iconst 0, 1) := by decide +kernel
theorem dL_law_269 : decode cL_law 269 = .ok (.ireturn, 1) := by decide +kernel
theorem dL_law_270 : decode cL_law 270 = .ok (.goto 1145, 3) := by decide +kernel
theorem dL_law_273 : decode cL_law 273 = .ok (.aload_n 1, 1) := by decide +kernel
theorem dL_law_274 : decode cL_law 274 = .ok (.aload_n 0, 1) := by decide +kernel
theorem dL_law_275 : decode cL_law 275 = .ok (.iload 4, 2) := by decide +kernel
theorem dL_law_277 : decode cL_law 277 = .ok (.iconst 1, 1) := by decide +kernel
theorem dL_law_278 : decode cL_law 278 = .ok (.iadd, 1) := by decide +kernel
theorem dL_law_279 : decode cL_law 279 = .ok (.iaload, 1) := by decide +kernel
theorem dL_law_280 : decode cL_law 280 = .ok (.aload_n 3, 1) := by decide +kernel
theorem dL_law_281 : decode cL_law 281 = .ok (.invokestatic 99, 3) := by decide +kernel
theorem dL_law_284 : decode cL_law 284 = .ok (.istore 5, 2) := by decide +kernel
theorem dL_law_286 : decode cL_law 286 = .ok (.aload_n 2, 1) := by decide +kernel
theorem dL_law_287 : decode cL_law 287 = .ok (.aload_n 0, 1) := by decide +kernel
theorem dL_law_288 : decode cL_law 288 = .ok (.iload 4, 2) := by decide +kernel
theorem dL_law_290 : decode cL_law 290 = .ok (.iconst 1, 1) := by decide +kernel
theorem dL_law_291 : decode cL_law 291 = .ok (.iadd, 1) := by decide +kernel
theorem dL_law_292 : decode cL_law 292 = .ok (.iaload, 1) := by decide +kernel
theorem dL_law_293 : decode cL_law 293 = .ok (.invokevirtual 102, 3) := by decide +kernel
theorem dL_law_296 : decode cL_law 296 = .ok (.istore 6, 2) := by decide +kernel
theorem dL_law_298 : decode cL_law 298 = .ok (.aload_n 2, 1) := by decide +kernel
theorem dL_law_299 : decode cL_law 299 = .ok (.invokevirtual 92, 3) := by decide +kernel
theorem dL_law_302 : decode cL_law 302 = .ok (.iload 5, 2) := by decide +kernel
theorem dL_law_304 : decode cL_law 304 = .ok (.if_icmp .eq 5, 3) := by decide +kernel
theorem dL_law_307 : decode cL_law 307 = .ok (.iconst 0, 1) := by decide +kernel
theorem dL_law_308 : decode cL_law 308 = .ok (.ireturn, 1) := by decide +kernel
theorem dL_law_309 : decode cL_law 309 = .ok (.iload 5, 2) := by decide +kernel
theorem dL_law_311 : decode cL_law 311 = .ok (.ifCond .ne 15, 3) := by decide +kernel
theorem dL_law_314 : decode cL_law 314 = .ok (.aload_n 3, 1) := by decide +kernel
theorem dL_law_315 : decode cL_law 315 = .ok (.iconst 0, 1) := by decide +kernel
theorem dL_law_316 : decode cL_law 316 = .ok (.laload, 1) := by decide +kernel
theorem dL_law_317 : decode cL_law 317 = .ok (.iload 6, 2) := by decide +kernel
theorem dL_law_319 : decode cL_law 319 = .ok (.i2l, 1) := by decide +kernel
theorem dL_law_320 : decode cL_law 320 = .ok (.lcmp, 1) := by decide +kernel
theorem dL_law_321 : decode cL_law 321 = .ok (.ifCond .eq 5, 3) := by decide +kernel
theorem dL_law_324 : decode cL_law 324 = .ok (.iconst 0, 1) := by decide +kernel
theorem dL_law_325 : decode cL_law 325 = .ok (.ireturn, 1) := by decide +kernel
theorem dL_law_326 : decode cL_law 326 = .ok (.goto 1089, 3) := by decide +kernel
theorem dL_law_329 : decode cL_law 329 = .ok (.aload_n 1, 1) := by decide +kernel
theorem dL_law_330 : decode cL_law 330 = .ok (.aload_n 0, 1) := by decide +kernel
theorem dL_law_331 : decode cL_law 331 = .ok (.iload 4, 2) := by decide +kernel
theorem dL_law_333 : decode cL_law 333 = .ok (.iconst 1, 1) := by decide +kernel
theorem dL_law_334 : decode cL_law 334 = .ok (.iadd, 1) := by decide +kernel
theorem dL_law_335 : decode cL_law 335 = .ok (.iaload, 1) := by decide +kernel
theorem dL_law_336 : decode cL_law 336 = .ok (.aload_n 3, 1) := by decide +kernel
theorem dL_law_337 : decode cL_law 337 = .ok (.invokestatic 103, 3) := by decide +kernel
theorem dL_law_340 : decode cL_law 340 = .ok (.istore 5, 2) := by decide +kernel
theorem dL_law_342 : decode cL_law 342 = .ok (.aload_n 2, 1) := by decide +kernel
theorem dL_law_343 : decode cL_law 343 = .ok (.aload_n 0, 1) := by decide +kernel
theorem dL_law_344 : decode cL_law 344 = .ok (.iload 4, 2) := by decide +kernel
theorem dL_law_346 : decode cL_law 346 = .ok (.iconst 1, 1) := by decide +kernel
theorem dL_law_347 : decode cL_law 347 = .ok (.iadd, 1) := by decide +kernel
theorem dL_law_348 : decode cL_law 348 = .ok (.iaload, 1) := by decide +kernel
theorem dL_law_349 : decode cL_law 349 = .ok (.invokevirtual 105, 3) := by decide +kernel
theorem dL_law_352 : decode cL_law 352 = .ok (.istore 6, 2) := by decide +kernel
theorem dL_law_354 : decode cL_law 354 = .ok (.aload_n 2, 1) := by decide +kernel
theorem dL_law_355 : decode cL_law 355 = .ok (.invokevirtual 92, 3) := by decide +kernel
theorem dL_law_358 : decode cL_law 358 = .ok (.iload 5, 2) := by decide +kernel
theorem dL_law_360 : decode cL_law 360 = .ok (.if_icmp .eq 5, 3) := by decide +kernel
theorem dL_law_363 : decode cL_law 363 = .ok (.iconst 0, 1) := by decide +kernel
theorem dL_law_364 : decode cL_law 364 = .ok (.ireturn, 1) := by decide +kernel
theorem dL_law_365 : decode cL_law 365 = .ok (.iload 5, 2) := by decide +kernel
theorem dL_law_367 : decode cL_law 367 = .ok (.ifCond .ne 15, 3) := by decide +kernel
theorem dL_law_370 : decode cL_law 370 = .ok (.aload_n 3, 1) := by decide +kernel
theorem dL_law_371 : decode cL_law 371 = .ok (.iconst 0, 1) := by decide +kernel
theorem dL_law_372 : decode cL_law 372 = .ok (.laload, 1) := by decide +kernel
theorem dL_law_373 : decode cL_law 373 = .ok (.iload 6, 2) := by decide +kernel
theorem dL_law_375 : decode cL_law 375 = .ok (.i2l, 1) := by decide +kernel
theorem dL_law_376 : decode cL_law 376 = .ok (.lcmp, 1) := by decide +kernel
theorem dL_law_377 : decode cL_law 377 = .ok (.ifCond .eq 5, 3) := by decide +kernel
theorem dL_law_380 : decode cL_law 380 = .ok (.iconst 0, 1) := by decide +kernel
theorem dL_law_381 : decode cL_law 381 = .ok (.ireturn, 1) := by decide +kernel
theorem dL_law_382 : decode cL_law 382 = .ok (.goto 1033, 3) := by decide +kernel
theorem dL_law_385 : decode cL_law 385 = .ok (.aload_n 1, 1) := by decide +kernel
theorem dL_law_386 : decode cL_law 386 = .ok (.aload_n 0, 1) := by decide +kernel
theorem dL_law_387 : decode cL_law 387 = .ok (.iload 4, 2) := by decide +kernel
theorem dL_law_389 : decode cL_law 389 = .ok (.iconst 1, 1) := by decide +kernel
theorem dL_law_390 : decode cL_law 390 = .ok (.iadd, 1) := by decide +kernel
theorem dL_law_391 : decode cL_law 391 = .ok (.iaload, 1) := by decide +kernel
theorem dL_law_392 : decode cL_law 392 = .ok (.aload_n 0, 1) := by decide +kernel
theorem dL_law_393 : decode cL_law 393 = .ok (.iload 4, 2) := by decide +kernel
theorem dL_law_395 : decode cL_law 395 = .ok (.iconst 2, 1) := by decide +kernel
theorem dL_law_396 : decode cL_law 396 = .ok (.iadd, 1) := by decide +kernel
theorem dL_law_397 : decode cL_law 397 = .ok (.iaload, 1) := by decide +kernel
theorem dL_law_398 : decode cL_law 398 = .ok (.aload_n 3, 1) := by decide +kernel
theorem dL_law_399 : decode cL_law 399 = .ok (.invokestatic 106, 3) := by decide +kernel
theorem dL_law_402 : decode cL_law 402 = .ok (.istore 5, 2) := by decide +kernel
theorem dL_law_404 : decode cL_law 404 = .ok (.aload_n 2, 1) := by decide +kernel
theorem dL_law_405 : decode cL_law 405 = .ok (.aload_n 0, 1) := by decide +kernel
theorem dL_law_406 : decode cL_law 406 = .ok (.iload 4, 2) := by decide +kernel
theorem dL_law_408 : decode cL_law 408 = .ok (.iconst 1, 1) := by decide +kernel
theorem dL_law_409 : decode cL_law 409 = .ok (.iadd, 1) := by decide +kernel
theorem dL_law_410 : decode cL_law 410 = .ok (.iaload, 1) := by decide +kernel
theorem dL_law_411 : decode cL_law 411 = .ok (.aload_n 0, 1) := by decide +kernel
theorem dL_law_412 : decode cL_law 412 = .ok (.iload 4, 2) := by decide +kernel
theorem dL_law_414 : decode cL_law 414 = .ok (.iconst 2, 1) := by decide +kernel
theorem dL_law_415 : decode cL_law 415 = .ok (.iadd, 1) := by decide +kernel
theorem dL_law_416 : decode cL_law 416 = .ok (.iaload, 1) := by decide +kernel
theorem dL_law_417 : decode cL_law 417 = .ok (.invokevirtual 108, 3) := by decide +kernel
theorem dL_law_420 : decode cL_law 420 = .ok (.istore 6, 2) := by decide +kernel
theorem dL_law_422 : decode cL_law 422 = .ok (.aload_n 2, 1) := by decide +kernel
theorem dL_law_423 : decode cL_law 423 = .ok (.invokevirtual 92, 3) := by decide +kernel
theorem dL_law_426 : decode cL_law 426 = .ok (.iload 5, 2) := by decide +kernel
theorem dL_law_428 : decode cL_law 428 = .ok (.if_icmp .eq 5, 3) := by decide +kernel
theorem dL_law_431 : decode cL_law 431 = .ok (.iconst 0, 1) := by decide +kernel
theorem dL_law_432 : decode cL_law 432 = .ok (.ireturn, 1) := by decide +kernel
theorem dL_law_433 : decode cL_law 433 = .ok (.iload 5, 2) := by decide +kernel
theorem dL_law_435 : decode cL_law 435 = .ok (.ifCond .ne 15, 3) := by decide +kernel
theorem dL_law_438 : decode cL_law 438 = .ok (.aload_n 3, 1) := by decide +kernel
theorem dL_law_439 : decode cL_law 439 = .ok (.iconst 0, 1) := by decide +kernel
theorem dL_law_440 : decode cL_law 440 = .ok (.laload, 1) := by decide +kernel
theorem dL_law_441 : decode cL_law 441 = .ok (.iload 6, 2) := by decide +kernel
theorem dL_law_443 : decode cL_law 443 = .ok (.i2l, 1) := by decide +kernel
theorem dL_law_444 : decode cL_law 444 = .ok (.lcmp, 1) := by decide +kernel
theorem dL_law_445 : decode cL_law 445 = .ok (.ifCond .eq 5, 3) := by decide +kernel
theorem dL_law_448 : decode cL_law 448 = .ok (.iconst 0, 1) := by decide +kernel
theorem dL_law_449 : decode cL_law 449 = .ok (.ireturn, 1) := by decide +kernel
theorem dL_law_450 : decode cL_law 450 = .ok (.goto 965, 3) := by decide +kernel
theorem dL_law_453 : decode cL_law 453 = .ok (.aload_n 1, 1) := by decide +kernel
theorem dL_law_454 : decode cL_law 454 = .ok (.aload_n 3, 1) := by decide +kernel
theorem dL_law_455 : decode cL_law 455 = .ok (.invokestatic 109, 3) := by decide +kernel
theorem dL_law_458 : decode cL_law 458 = .ok (.istore 5, 2) := by decide +kernel
theorem dL_law_460 : decode cL_law 460 = .ok (.aload_n 2, 1) := by decide +kernel
theorem dL_law_461 : decode cL_law 461 = .ok (.invokevirtual 111, 3) := by decide +kernel
theorem dL_law_464 : decode cL_law 464 = .ok (.istore 6, 2) := by decide +kernel
theorem dL_law_466 : decode cL_law 466 = .ok (.aload_n 2, 1) := by decide +kernel
theorem dL_law_467 : decode cL_law 467 = .ok (.invokevirtual 92, 3) := by decide +kernel
theorem dL_law_470 : decode cL_law 470 = .ok (.iload 5, 2) := by decide +kernel
theorem dL_law_472 : decode cL_law 472 = .ok (.if_icmp .eq 5, 3) := by decide +kernel
theorem dL_law_475 : decode cL_law 475 = .ok (.iconst 0, 1) := by decide +kernel
