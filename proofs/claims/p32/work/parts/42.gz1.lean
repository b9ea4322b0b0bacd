theorem dL_pauses_68 : decode cL_pauses 68 = .ok (.iconst 2, 1) := by decide +kernel
theorem dL_pauses_69 : decode cL_pauses 69 = .ok (.iadd, 1) := by decide +kernel
theorem dL_pauses_70 : decode cL_pauses 70 = .ok (.iaload, 1) := by decide +kernel
theorem dL_pauses_71 : decode cL_pauses 71 = .ok (.aload_n 1, 1) := by decide +kernel
theorem dL_pauses_72 : decode cL_pauses 72 = .ok (.iconst 4, 1) := by decide +kernel
theorem dL_pauses_73 : decode cL_pauses 73 = .ok (.iaload, 1) := by decide +kernel
theorem dL_pauses_74 : decode cL_pauses 74 = .ok (.if_icmp .le 6, 3) := by decide +kernel
theorem dL_pauses_77 : decode cL_pauses 77 = .ok (.goto 76, 3) := by decide +kernel
theorem dL_pauses_80 : decode cL_pauses 80 = .ok (.aload 4, 2) := by decide +kernel
theorem dL_pauses_82 : decode cL_pauses 82 = .ok (.iconst 3, 1) := by decide +kernel
theorem dL_pauses_83 : decode cL_pauses 83 = .ok (.iload 9, 2) := by decide +kernel
theorem dL_pauses_85 : decode cL_pauses 85 = .ok (.imul, 1) := by decide +kernel
theorem dL_pauses_86 : decode cL_pauses 86 = .ok (.iconst 0, 1) := by decide +kernel
theorem dL_pauses_87 : decode cL_pauses 87 = .ok (.iastore, 1) := by decide +kernel
theorem dL_pauses_88 : decode cL_pauses 88 = .ok (.aload_n 3, 1) := by decide +kernel
theorem dL_pauses_89 : decode cL_pauses 89 = .ok (.iconst 3, 1) := by decide +kernel
theorem dL_pauses_90 : decode cL_pauses 90 = .ok (.iload 9, 2) := by decide +kernel
theorem dL_pauses_92 : decode cL_pauses 92 = .ok (.imul, 1) := by decide +kernel
theorem dL_pauses_93 : decode cL_pauses 93 = .ok (.iconst 2, 1) := by decide +kernel
theorem dL_pauses_94 : decode cL_pauses 94 = .ok (.iadd, 1) := by decide +kernel
theorem dL_pauses_95 : decode cL_pauses 95 = .ok (.iconst 0, 1) := by decide +kernel
theorem dL_pauses_96 : decode cL_pauses 96 = .ok (.iastore, 1) := by decide +kernel
theorem dL_pauses_97 : decode cL_pauses 97 = .ok (.iconst 0, 1) := by decide +kernel
theorem dL_pauses_98 : decode cL_pauses 98 = .ok (.istore 10, 2) := by decide +kernel
theorem dL_pauses_100 : decode cL_pauses 100 = .ok (.iload 10, 2) := by decide +kernel
theorem dL_pauses_102 : decode cL_pauses 102 = .ok (.aload_n 1, 1) := by decide +kernel
theorem dL_pauses_103 : decode cL_pauses 103 = .ok (.iconst 0, 1) := by decide +kernel
theorem dL_pauses_104 : decode cL_pauses 104 = .ok (.iaload, 1) := by decide +kernel
theorem dL_pauses_105 : decode cL_pauses 105 = .ok (.if_icmp .ge 20, 3) := by decide +kernel
theorem dL_pauses_108 : decode cL_pauses 108 = .ok (.aload_n 1, 1) := by decide +kernel
theorem dL_pauses_109 : decode cL_pauses 109 = .ok (.aload_n 2, 1) := by decide +kernel
theorem dL_pauses_110 : decode cL_pauses 110 = .ok (.aload_n 3, 1) := by decide +kernel
theorem dL_pauses_111 : decode cL_pauses 111 = .ok (.iload 10, 2) := by decide +kernel
theorem dL_pauses_113 : decode cL_pauses 113 = .ok (.invokestatic 21, 3) := by decide +kernel
theorem dL_pauses_116 : decode cL_pauses 116 = .ok (.ifCond .ne 9, 3) := by decide +kernel
theorem dL_pauses_119 : decode cL_pauses 119 = .ok (.iinc 10 1, 3) := by decide +kernel
theorem dL_pauses_122 : decode cL_pauses 122 = .ok (.goto (-22), 3) := by decide +kernel
theorem dL_pauses_125 : decode cL_pauses 125 = .ok (.iload 10, 2) := by decide +kernel
theorem dL_pauses_127 : decode cL_pauses 127 = .ok (.aload_n 1, 1) := by decide +kernel
theorem dL_pauses_128 : decode cL_pauses 128 = .ok (.iconst 0, 1) := by decide +kernel
theorem dL_pauses_129 : decode cL_pauses 129 = .ok (.iaload, 1) := by decide +kernel
theorem dL_pauses_130 : decode cL_pauses 130 = .ok (.if_icmp .ge 23, 3) := by decide +kernel
theorem dL_pauses_133 : decode cL_pauses 133 = .ok (.aload_n 3, 1) := by decide +kernel
theorem dL_pauses_134 : decode cL_pauses 134 = .ok (.iconst 3, 1) := by decide +kernel
theorem dL_pauses_135 : decode cL_pauses 135 = .ok (.iload 9, 2) := by decide +kernel
theorem dL_pauses_137 : decode cL_pauses 137 = .ok (.imul, 1) := by decide +kernel
theorem dL_pauses_138 : decode cL_pauses 138 = .ok (.iconst 0, 1) := by decide +kernel
theorem dL_pauses_139 : decode cL_pauses 139 = .ok (.iastore, 1) := by decide +kernel
theorem dL_pauses_140 : decode cL_pauses 140 = .ok (.aload_n 3, 1) := by decide +kernel
theorem dL_pauses_141 : decode cL_pauses 141 = .ok (.iconst 3, 1) := by decide +kernel
theorem dL_pauses_142 : decode cL_pauses 142 = .ok (.iload 9, 2) := by decide +kernel
theorem dL_pauses_144 : decode cL_pauses 144 = .ok (.imul, 1) := by decide +kernel
theorem dL_pauses_145 : decode cL_pauses 145 = .ok (.iconst 1, 1) := by decide +kernel
theorem dL_pauses_146 : decode cL_pauses 146 = .ok (.iadd, 1) := by decide +kernel
theorem dL_pauses_147 : decode cL_pauses 147 = .ok (.iload 10, 2) := by decide +kernel
theorem dL_pauses_149 : decode cL_pauses 149 = .ok (.iastore, 1) := by decide +kernel
theorem dL_pauses_150 : decode cL_pauses 150 = .ok (.iinc 7 1, 3) := by decide +kernel
theorem dL_pauses_153 : decode cL_pauses 153 = .ok (.iinc 9 1, 3) := by decide +kernel
theorem dL_pauses_156 : decode cL_pauses 156 = .ok (.goto (-112), 3) := by decide +kernel
theorem dL_pauses_159 : decode cL_pauses 159 = .ok (.iinc 8 1, 3) := by decide +kernel
theorem dL_pauses_162 : decode cL_pauses 162 = .ok (.goto (-135), 3) := by decide +kernel
theorem dL_pauses_165 : decode cL_pauses 165 = .ok (.aload_n 0, 1) := by decide +kernel
theorem dL_pauses_166 : decode cL_pauses 166 = .ok (.iload 6, 2) := by decide +kernel
theorem dL_pauses_168 : decode cL_pauses 168 = .ok (.invokevirtual 71, 3) := by decide +kernel
theorem dL_pauses_171 : decode cL_pauses 171 = .ok (.iload 7, 2) := by decide +kernel
theorem dL_pauses_173 : decode cL_pauses 173 = .ok (.if_icmp .ne 7, 3) := by decide +kernel
theorem dL_pauses_176 : decode cL_pauses 176 = .ok (.iconst 1, 1) := by decide +kernel
theorem dL_pauses_177 : decode cL_pauses 177 = .ok (.goto 4, 3) := by decide +kernel
theorem dL_pauses_180 : decode cL_pauses 180 = .ok (.iconst 0, 1) := by decide +kernel
theorem dL_pauses_181 : decode cL_pauses 181 = .ok (.ireturn, 1) := by decide +kernel
theorem dL_acts_0 : decode cL_acts 0 = .ok (.iload 8, 2) := by decide +kernel
theorem dL_acts_2 : decode cL_acts 2 = .ok (.iconst 5, 1) := by decide +kernel
theorem dL_acts_3 : decode cL_acts 3 = .ok (.ishr, 1) := by decide +kernel
theorem dL_acts_4 : decode cL_acts 4 = .ok (.ldc 74, 2) := by decide +kernel
theorem dL_acts_6 : decode cL_acts 6 = .ok (.invokestatic 75, 3) := by decide +kernel
theorem dL_acts_9 : decode cL_acts 9 = .ok (.istore 9, 2) := by decide +kernel
theorem dL_acts_11 : decode cL_acts 11 = .ok (.iload 8, 2) := by decide +kernel
theorem dL_acts_13 : decode cL_acts 13 = .ok (.bipush 30, 2) := by decide +kernel
theorem dL_acts_15 : decode cL_acts 15 = .ok (.invokestatic 75, 3) := by decide +kernel
theorem dL_acts_18 : decode cL_acts 18 = .ok (.istore 10, 2) := by decide +kernel
theorem dL_acts_20 : decode cL_acts 20 = .ok (.iload 10, 2) := by decide +kernel
theorem dL_acts_22 : decode cL_acts 22 = .ok (.ifCond .eq 9, 3) := by decide +kernel
theorem dL_acts_25 : decode cL_acts 25 = .ok (.aload_n 1, 1) := by decide +kernel
theorem dL_acts_26 : decode cL_acts 26 = .ok (.iconst 0, 1) := by decide +kernel
theorem dL_acts_27 : decode cL_acts 27 = .ok (.iaload, 1) := by decide +kernel
theorem dL_acts_28 : decode cL_acts 28 = .ok (.ifCond .ne 22, 3) := by decide +kernel
theorem dL_acts_31 : decode cL_acts 31 = .ok (.aload_n 0, 1) := by decide +kernel
theorem dL_acts_32 : decode cL_acts 32 = .ok (.aload_n 1, 1) := by decide +kernel
theorem dL_acts_33 : decode cL_acts 33 = .ok (.aload_n 2, 1) := by decide +kernel
theorem dL_acts_34 : decode cL_acts 34 = .ok (.aload_n 3, 1) := by decide +kernel
theorem dL_acts_35 : decode cL_acts 35 = .ok (.aload 4, 2) := by decide +kernel
theorem dL_acts_37 : decode cL_acts 37 = .ok (.aload 5, 2) := by decide +kernel
theorem dL_acts_39 : decode cL_acts 39 = .ok (.aload 6, 2) := by decide +kernel
theorem dL_acts_41 : decode cL_acts 41 = .ok (.aload 7, 2) := by decide +kernel
theorem dL_acts_43 : decode cL_acts 43 = .ok (.iconst 0, 1) := by decide +kernel
theorem dL_acts_44 : decode cL_acts 44 = .ok (.iload 9, 2) := by decide +kernel
theorem dL_acts_46 : decode cL_acts 46 = .ok (.invokestatic 78, 3) := by decide +kernel
theorem dL_acts_49 : decode cL_acts 49 = .ok (.ireturn, 1) := by decide +kernel
theorem dL_acts_50 : decode cL_acts 50 = .ok (.iload 10, 2) := by decide +kernel
theorem dL_acts_52 : decode cL_acts 52 = .ok (.iconst 5, 1) := by decide +kernel
theorem dL_acts_53 : decode cL_acts 53 = .ok (.if_icmp .lt 9, 3) := by decide +kernel
theorem dL_acts_56 : decode cL_acts 56 = .ok (.aload_n 1, 1) := by decide +kernel
theorem dL_acts_57 : decode cL_acts 57 = .ok (.iconst 1, 1) := by decide +kernel
theorem dL_acts_58 : decode cL_acts 58 = .ok (.iaload, 1) := by decide +kernel
theorem dL_acts_59 : decode cL_acts 59 = .ok (.ifCond .ne 22, 3) := by decide +kernel
theorem dL_acts_62 : decode cL_acts 62 = .ok (.aload_n 0, 1) := by decide +kernel
theorem dL_acts_63 : decode cL_acts 63 = .ok (.aload_n 1, 1) := by decide +kernel
theorem dL_acts_64 : decode cL_acts 64 = .ok (.aload_n 2, 1) := by decide +kernel
theorem dL_acts_65 : decode cL_acts 65 = .ok (.aload_n 3, 1) := by decide +kernel
theorem dL_acts_66 : decode cL_acts 66 = .ok (.aload 4, 2) := by decide +kernel
theorem dL_acts_68 : decode cL_acts 68 = .ok (.aload 5, 2) := by decide +kernel
theorem dL_acts_70 : decode cL_acts 70 = .ok (.aload 6, 2) := by decide +kernel
theorem dL_acts_72 : decode cL_acts 72 = .ok (.aload 7, 2) := by decide +kernel
theorem dL_acts_74 : decode cL_acts 74 = .ok (.iconst 1, 1) := by decide +kernel
theorem dL_acts_75 : decode cL_acts 75 = .ok (.iload 9, 2) := by decide +kernel
theorem dL_acts_77 : decode cL_acts 77 = .ok (.invokestatic 78, 3) := by decide +kernel
theorem dL_acts_80 : decode cL_acts 80 = .ok (.ireturn, 1) := by decide +kernel
theorem dL_acts_81 : decode cL_acts 81 = .ok (.iload 10, 2) := by decide +kernel
theorem dL_acts_83 : decode cL_acts 83 = .ok (.iconst 5, 1) := by decide +kernel
theorem dL_acts_84 : decode cL_acts 84 = .ok (.if_icmp .eq 9, 3) := by decide +kernel
theorem dL_acts_87 : decode cL_acts 87 = .ok (.aload_n 1, 1) := by decide +kernel
theorem dL_acts_88 : decode cL_acts 88 = .ok (.iconst 2, 1) := by decide +kernel
theorem dL_acts_89 : decode cL_acts 89 = .ok (.iaload, 1) := by decide +kernel
theorem dL_acts_90 : decode cL_acts 90 = .ok (.ifCond .ne 22, 3) := by decide +kernel
theorem dL_acts_93 : decode cL_acts 93 = .ok (.aload_n 0, 1) := by decide +kernel
theorem dL_acts_94 : decode cL_acts 94 = .ok (.aload_n 1, 1) := by decide +kernel
theorem dL_acts_95 : decode cL_acts 95 = .ok (.aload_n 2, 1) := by decide +kernel
theorem dL_acts_96 : decode cL_acts 96 = .ok (.aload_n 3, 1) := by decide +kernel
theorem dL_acts_97 : decode cL_acts 97 = .ok (.aload 4, 2) := by decide +kernel
theorem dL_acts_99 : decode cL_acts 99 = .ok (.aload 5, 2) := by decide +kernel
theorem dL_acts_101 : decode cL_acts 101 = .ok (.aload 6, 2) := by decide +kernel
theorem dL_acts_103 : decode cL_acts 103 = .ok (.aload 7, 2) := by decide +kernel
theorem dL_acts_105 : decode cL_acts 105 = .ok (.iconst 2, 1) := by decide +kernel
theorem dL_acts_106 : decode cL_acts 106 = .ok (.iload 9, 2) := by decide +kernel
theorem dL_acts_108 : decode cL_acts 108 = .ok (.invokestatic 78, 3) := by decide +kernel
theorem dL_acts_111 : decode cL_acts 111 = .ok (.ireturn, 1) := by decide +kernel
theorem dL_acts_112 : decode cL_acts 112 = .ok (.iload 10, 2) := by decide +kernel
theorem dL_acts_114 : decode cL_acts 114 = .ok (.bipush 6, 2) := by decide +kernel
theorem dL_acts_116 : decode cL_acts 116 = .ok (.if_icmp .eq 9, 3) := by decide +kernel
theorem dL_acts_119 : decode cL_acts 119 = .ok (.aload_n 1, 1) := by decide +kernel
theorem dL_acts_120 : decode cL_acts 120 = .ok (.iconst 3, 1) := by decide +kernel
theorem dL_acts_121 : decode cL_acts 121 = .ok (.iaload, 1) := by decide +kernel
theorem dL_acts_122 : decode cL_acts 122 = .ok (.ifCond .ne 22, 3) := by decide +kernel
theorem dL_acts_125 : decode cL_acts 125 = .ok (.aload_n 0, 1) := by decide +kernel
theorem dL_acts_126 : decode cL_acts 126 = .ok (.aload_n 1, 1) := by decide +kernel
theorem dL_acts_127 : decode cL_acts 127 = .ok (.aload_n 2, 1) := by decide +kernel
theorem dL_acts_128 : decode cL_acts 128 = .ok (.aload_n 3, 1) := by decide +kernel
theorem dL_acts_129 : decode cL_acts 129 = .ok (.aload 4, 2) := by decide +kernel
theorem dL_acts_131 : decode cL_acts 131 = .ok (.aload 5, 2) := by decide +kernel
theorem dL_acts_133 : decode cL_acts 133 = .ok (.aload 6, 2) := by decide +kernel
theorem dL_acts_135 : decode cL_acts 135 = .ok (.aload 7, 2) := by decide +kernel
theorem dL_acts_137 : decode cL_acts 137 = .ok (.iconst 3, 1) := by decide +kernel
theorem dL_acts_138 : decode cL_acts 138 = .ok (.iload 9, 2) := by decide +kernel
theorem dL_acts_140 : decode cL_acts 140 = .ok (.invokestatic 78, 3) := by decide +kernel
theorem dL_acts_143 : decode cL_acts 143 = .ok (.ireturn, 1) := by decide +kernel
theorem dL_acts_144 : decode cL_acts 144 = .ok (.iload 10, 2) := by decide +kernel
theorem dL_acts_146 : decode cL_acts 146 = .ok (.bipush 16, 2) := by decide +kernel
theorem dL_acts_148 : decode cL_acts 148 = .ok (.if_icmp .ge 53, 3) := by decide +kernel
theorem dL_acts_151 : decode cL_acts 151 = .ok (.aload_n 0, 1) := by decide +kernel
theorem dL_acts_152 : decode cL_acts 152 = .ok (.aload_n 1, 1) := by decide +kernel
theorem dL_acts_153 : decode cL_acts 153 = .ok (.aload_n 2, 1) := by decide +kernel
theorem dL_acts_154 : decode cL_acts 154 = .ok (.aload_n 3, 1) := by decide +kernel
theorem dL_acts_155 : decode cL_acts 155 = .ok (.aload 4, 2) := by decide +kernel
theorem dL_acts_157 : decode cL_acts 157 = .ok (.aload 5, 2) := by decide +kernel
theorem dL_acts_159 : decode cL_acts 159 = .ok (.aload 6, 2) := by decide +kernel
theorem dL_acts_161 : decode cL_acts 161 = .ok (.iload 10, 2) := by decide +kernel
theorem dL_acts_163 : decode cL_acts 163 = .ok (.bipush 7, 2) := by decide +kernel
theorem dL_acts_165 : decode cL_acts 165 = .ok (.if_icmp .ne 7, 3) := by decide +kernel
theorem dL_acts_168 : decode cL_acts 168 = .ok (.iconst 0, 1) := by decide +kernel
theorem dL_acts_169 : decode cL_acts 169 = .ok (.goto 26, 3) := by decide +kernel
theorem dL_acts_172 : decode cL_acts 172 = .ok (.iload 10, 2) := by decide +kernel
theorem dL_acts_174 : decode cL_acts 174 = .ok (.bipush 11, 2) := by decide +kernel
theorem dL_acts_176 : decode cL_acts 176 = .ok (.if_icmp .ge 7, 3) := by decide +kernel
theorem dL_acts_179 : decode cL_acts 179 = .ok (.iconst 1, 1) := by decide +kernel
theorem dL_acts_180 : decode cL_acts 180 = .ok (.goto 15, 3) := by decide +kernel
theorem dL_acts_183 : decode cL_acts 183 = .ok (.iload 10, 2) := by decide +kernel
theorem dL_acts_185 : decode cL_acts 185 = .ok (.bipush 14, 2) := by decide +kernel
theorem dL_acts_187 : decode cL_acts 187 = .ok (.if_icmp .ge 7, 3) := by decide +kernel
theorem dL_acts_190 : decode cL_acts 190 = .ok (.iconst 2, 1) := by decide +kernel
theorem dL_acts_191 : decode cL_acts 191 = .ok (.goto 4, 3) := by decide +kernel
theorem dL_acts_194 : decode cL_acts 194 = .ok (.iconst 3, 1) := by decide +kernel
theorem dL_acts_195 : decode cL_acts 195 = .ok (.iload 9, 2) := by decide +kernel
theorem dL_acts_197 : decode cL_acts 197 = .ok (.invokestatic 82, 3) := by decide +kernel
theorem dL_acts_200 : decode cL_acts 200 = .ok (.ireturn, 1) := by decide +kernel
theorem dL_acts_201 : decode cL_acts 201 = .ok (.iload 10, 2) := by decide +kernel
theorem dL_acts_203 : decode cL_acts 203 = .ok (.bipush 23, 2) := by decide +kernel
theorem dL_acts_205 : decode cL_acts 205 = .ok (.if_icmp .ge 51, 3) := by decide +kernel
theorem dL_acts_208 : decode cL_acts 208 = .ok (.aload_n 0, 1) := by decide +kernel
theorem dL_acts_209 : decode cL_acts 209 = .ok (.aload_n 1, 1) := by decide +kernel
theorem dL_acts_210 : decode cL_acts 210 = .ok (.aload_n 2, 1) := by decide +kernel
theorem dL_acts_211 : decode cL_acts 211 = .ok (.aload_n 3, 1) := by decide +kernel
theorem dL_acts_212 : decode cL_acts 212 = .ok (.aload 4, 2) := by decide +kernel
theorem dL_acts_214 : decode cL_acts 214 = .ok (.aload 7, 2) := by decide +kernel
theorem dL_acts_216 : decode cL_acts 216 = .ok (.iload 10, 2) := by decide +kernel
theorem dL_acts_218 : decode cL_acts 218 = .ok (.bipush 18, 2) := by decide +kernel
theorem dL_acts_220 : decode cL_acts 220 = .ok (.if_icmp .ge 7, 3) := by decide +kernel
theorem dL_acts_223 : decode cL_acts 223 = .ok (.iconst 0, 1) := by decide +kernel
theorem dL_acts_224 : decode cL_acts 224 = .ok (.goto 26, 3) := by decide +kernel
theorem dL_acts_227 : decode cL_acts 227 = .ok (.iload 10, 2) := by decide +kernel
theorem dL_acts_229 : decode cL_acts 229 = .ok (.bipush 18, 2) := by decide +kernel
theorem dL_acts_231 : decode cL_acts 231 = .ok (.if_icmp .ne 7, 3) := by decide +kernel
theorem dL_acts_234 : decode cL_acts 234 = .ok (.iconst 1, 1) := by decide +kernel
theorem dL_acts_235 : decode cL_acts 235 = .ok (.goto 15, 3) := by decide +kernel
theorem dL_acts_238 : decode cL_acts 238 = .ok (.iload 10, 2) := by decide +kernel
theorem dL_acts_240 : decode cL_acts 240 = .ok (.bipush 21, 2) := by decide +kernel
theorem dL_acts_242 : decode cL_acts 242 = .ok (.if_icmp .ge 7, 3) := by decide +kernel
theorem dL_acts_245 : decode cL_acts 245 = .ok (.iconst 2, 1) := by decide +kernel
theorem dL_acts_246 : decode cL_acts 246 = .ok (.goto 4, 3) := by decide +kernel
theorem dL_acts_249 : decode cL_acts 249 = .ok (.iconst 3, 1) := by decide +kernel
theorem dL_acts_250 : decode cL_acts 250 = .ok (.iload 9, 2) := by decide +kernel
theorem dL_acts_252 : decode cL_acts 252 = .ok (.invokestatic 86, 3) := by decide +kernel
theorem dL_acts_255 : decode cL_acts 255 = .ok (.ireturn, 1) := by decide +kernel
theorem dL_acts_256 : decode cL_acts 256 = .ok (.iload 10, 2) := by decide +kernel
theorem dL_acts_258 : decode cL_acts 258 = .ok (.bipush 27, 2) := by decide +kernel
theorem dL_acts_260 : decode cL_acts 260 = .ok (.if_icmp .ge 15, 3) := by decide +kernel
theorem dL_acts_263 : decode cL_acts 263 = .ok (.aload_n 0, 1) := by decide +kernel
theorem dL_acts_264 : decode cL_acts 264 = .ok (.aload_n 1, 1) := by decide +kernel
theorem dL_acts_265 : decode cL_acts 265 = .ok (.aload_n 2, 1) := by decide +kernel
theorem dL_acts_266 : decode cL_acts 266 = .ok (.aload_n 3, 1) := by decide +kernel
theorem dL_acts_267 : decode cL_acts 267 = .ok (.aload 4, 2) := by decide +kernel
theorem dL_acts_269 : decode cL_acts 269 = .ok (.iload 9, 2) := by decide +kernel
theorem dL_acts_271 : decode cL_acts 271 = .ok (.invokestatic 90, 3) := by decide +kernel
theorem dL_acts_274 : decode cL_acts 274 = .ok (.ireturn, 1) := by decide +kernel
theorem dL_acts_275 : decode cL_acts 275 = .ok (.iload 10, 2) := by decide +kernel
theorem dL_acts_277 : decode cL_acts 277 = .ok (.bipush 29, 2) := by decide +kernel
theorem dL_acts_279 : decode cL_acts 279 = .ok (.if_icmp .ge 106, 3) := by decide +kernel
theorem dL_acts_282 : decode cL_acts 282 = .ok (.iload 9, 2) := by decide +kernel
theorem dL_acts_284 : decode cL_acts 284 = .ok (.aload_n 1, 1) := by decide +kernel
theorem dL_acts_285 : decode cL_acts 285 = .ok (.iconst 1, 1) := by decide +kernel
theorem dL_acts_286 : decode cL_acts 286 = .ok (.iaload, 1) := by decide +kernel
theorem dL_acts_287 : decode cL_acts 287 = .ok (.irem, 1) := by decide +kernel
theorem dL_acts_288 : decode cL_acts 288 = .ok (.istore 11, 2) := by decide +kernel
theorem dL_acts_290 : decode cL_acts 290 = .ok (.aload_n 3, 1) := by decide +kernel
theorem dL_acts_291 : decode cL_acts 291 = .ok (.iconst 3, 1) := by decide +kernel
theorem dL_acts_292 : decode cL_acts 292 = .ok (.iload 11, 2) := by decide +kernel
theorem dL_acts_294 : decode cL_acts 294 = .ok (.imul, 1) := by decide +kernel
theorem dL_acts_295 : decode cL_acts 295 = .ok (.iaload, 1) := by decide +kernel
theorem dL_acts_296 : decode cL_acts 296 = .ok (.iconst 1, 1) := by decide +kernel
theorem dL_acts_297 : decode cL_acts 297 = .ok (.if_icmp .gt 14, 3) := by decide +kernel
theorem dL_acts_300 : decode cL_acts 300 = .ok (.aload 4, 2) := by decide +kernel
theorem dL_acts_302 : decode cL_acts 302 = .ok (.iconst 3, 1) := by decide +kernel
theorem dL_acts_303 : decode cL_acts 303 = .ok (.iload 11, 2) := by decide +kernel
theorem dL_acts_305 : decode cL_acts 305 = .ok (.imul, 1) := by decide +kernel
theorem dL_acts_306 : decode cL_acts 306 = .ok (.iaload, 1) := by decide +kernel
theorem dL_acts_307 : decode cL_acts 307 = .ok (.iconst 1, 1) := by decide +kernel
theorem dL_acts_308 : decode cL_acts 308 = .ok (.if_icmp .ne 20, 3) := by decide +kernel
theorem dL_acts_311 : decode cL_acts 311 = .ok (.aload_n 0, 1) := by decide +kernel
theorem dL_acts_312 : decode cL_acts 312 = .ok (.iload 11, 2) := by decide +kernel
theorem dL_acts_314 : decode cL_acts 314 = .ok (.invokevirtual 94, 3) := by decide +kernel
theorem dL_acts_317 : decode cL_acts 317 = .ok (.bipush (-2), 2) := by decide +kernel
theorem dL_acts_319 : decode cL_acts 319 = .ok (.if_icmp .ne 7, 3) := by decide +kernel
theorem dL_acts_322 : decode cL_acts 322 = .ok (.iconst 1, 1) := by decide +kernel
theorem dL_acts_323 : decode cL_acts 323 = .ok (.goto 4, 3) := by decide +kernel
theorem dL_acts_326 : decode cL_acts 326 = .ok (.iconst 0, 1) := by decide +kernel
theorem dL_acts_327 : decode cL_acts 327 = .ok (.ireturn, 1) := by decide +kernel
theorem dL_acts_328 : decode cL_acts 328 = .ok (.aload 4, 2) := by decide +kernel
theorem dL_acts_330 : decode cL_acts 330 = .ok (.iconst 3, 1) := by decide +kernel
theorem dL_acts_331 : decode cL_acts 331 = .ok (.iload 11, 2) := by decide +kernel
theorem dL_acts_333 : decode cL_acts 333 = .ok (.imul, 1) := by decide +kernel
theorem dL_acts_334 : decode cL_acts 334 = .ok (.iconst 1, 1) := by decide +kernel
theorem dL_acts_335 : decode cL_acts 335 = .ok (.iastore, 1) := by decide +kernel
theorem dL_acts_336 : decode cL_acts 336 = .ok (.iconst 0, 1) := by decide +kernel
theorem dL_acts_337 : decode cL_acts 337 = .ok (.istore 12, 2) := by decide +kernel
theorem dL_acts_339 : decode cL_acts 339 = .ok (.iconst 0, 1) := by decide +kernel
theorem dL_acts_340 : decode cL_acts 340 = .ok (.istore 13, 2) := by decide +kernel
theorem dL_acts_342 : decode cL_acts 342 = .ok (.iload 13, 2) := by decide +kernel
theorem dL_acts_344 : decode cL_acts 344 = .ok (.aload_n 1, 1) := by decide +kernel
theorem dL_acts_345 : decode cL_acts 345 = .ok (.iconst 1, 1) := by decide +kernel
theorem dL_acts_346 : decode cL_acts 346 = .ok (.iaload, 1) := by decide +kernel
theorem dL_acts_347 : decode cL_acts 347 = .ok (.if_icmp .ge 21, 3) := by decide +kernel
theorem dL_acts_350 : decode cL_acts 350 = .ok (.iload 12, 2) := by decide +kernel
theorem dL_acts_352 : decode cL_acts 352 = .ok (.aload 4, 2) := by decide +kernel
theorem dL_acts_354 : decode cL_acts 354 = .ok (.iconst 3, 1) := by decide +kernel
theorem dL_acts_355 : decode cL_acts 355 = .ok (.iload 13, 2) := by decide +kernel
theorem dL_acts_357 : decode cL_acts 357 = .ok (.imul, 1) := by decide +kernel
theorem dL_acts_358 : decode cL_acts 358 = .ok (.iaload, 1) := by decide +kernel
theorem dL_acts_359 : decode cL_acts 359 = .ok (.iadd, 1) := by decide +kernel
theorem dL_acts_360 : decode cL_acts 360 = .ok (.istore 12, 2) := by decide +kernel
theorem dL_acts_362 : decode cL_acts 362 = .ok (.iinc 13 1, 3) := by decide +kernel
theorem dL_acts_365 : decode cL_acts 365 = .ok (.goto (-23), 3) := by decide +kernel
theorem dL_acts_368 : decode cL_acts 368 = .ok (.aload_n 0, 1) := by decide +kernel
theorem dL_acts_369 : decode cL_acts 369 = .ok (.iload 11, 2) := by decide +kernel
theorem dL_acts_371 : decode cL_acts 371 = .ok (.invokevirtual 94, 3) := by decide +kernel
theorem dL_acts_374 : decode cL_acts 374 = .ok (.iload 12, 2) := by decide +kernel
theorem dL_acts_376 : decode cL_acts 376 = .ok (.if_icmp .ne 7, 3) := by decide +kernel
theorem dL_acts_379 : decode cL_acts 379 = .ok (.iconst 1, 1) := by decide +kernel
theorem dL_acts_380 : decode cL_acts 380 = .ok (.goto 4, 3) := by decide +kernel
theorem dL_acts_383 : decode cL_acts 383 = .ok (.iconst 0, 1) := by decide +kernel
theorem dL_acts_384 : decode cL_acts 384 = .ok (.ireturn, 1) := by decide +kernel
theorem dL_acts_385 : decode cL_acts 385 = .ok (.iload 9, 2) := by decide +kernel
theorem dL_acts_387 : decode cL_acts 387 = .ok (.iconst 3, 1) := by decide +kernel
theorem dL_acts_388 : decode cL_acts 388 = .ok (.irem, 1) := by decide +kernel
theorem dL_acts_389 : decode cL_acts 389 = .ok (.istore 11, 2) := by decide +kernel
theorem dL_acts_391 : decode cL_acts 391 = .ok (.aload_n 1, 1) := by decide +kernel
theorem dL_acts_392 : decode cL_acts 392 = .ok (.iconst 5, 1) := by decide +kernel
theorem dL_acts_393 : decode cL_acts 393 = .ok (.iload 11, 2) := by decide +kernel
theorem dL_acts_395 : decode cL_acts 395 = .ok (.iadd, 1) := by decide +kernel
theorem dL_acts_396 : decode cL_acts 396 = .ok (.iaload, 1) := by decide +kernel
theorem dL_acts_397 : decode cL_acts 397 = .ok (.istore 12, 2) := by decide +kernel
theorem dL_acts_399 : decode cL_acts 399 = .ok (.aload_n 1, 1) := by decide +kernel
theorem dL_acts_400 : decode cL_acts 400 = .ok (.iconst 5, 1) := by decide +kernel
theorem dL_acts_401 : decode cL_acts 401 = .ok (.iload 11, 2) := by decide +kernel
theorem dL_acts_403 : decode cL_acts 403 = .ok (.iadd, 1) := by decide +kernel
theorem dL_acts_404 : decode cL_acts 404 = .ok (.iload 11, 2) := by decide +kernel
theorem dL_acts_406 : decode cL_acts 406 = .ok (.ifCond .ne 13, 3) := by decide +kernel
theorem dL_acts_409 : decode cL_acts 409 = .ok (.iload 9, 2) := by decide +kernel
theorem dL_acts_411 : decode cL_acts 411 = .ok (.iconst 3, 1) := by decide +kernel
theorem dL_acts_412 : decode cL_acts 412 = .ok (.idiv, 1) := by decide +kernel
theorem dL_acts_413 : decode cL_acts 413 = .ok (.bipush 100, 2) := by decide +kernel
theorem dL_acts_415 : decode cL_acts 415 = .ok (.irem, 1) := by decide +kernel
theorem dL_acts_416 : decode cL_acts 416 = .ok (.goto 42, 3) := by decide +kernel
theorem dL_acts_419 : decode cL_acts 419 = .ok (.iload 11, 2) := by decide +kernel
theorem dL_acts_421 : decode cL_acts 421 = .ok (.iconst 1, 1) := by decide +kernel
theorem dL_acts_422 : decode cL_acts 422 = .ok (.if_icmp .ne 28, 3) := by decide +kernel
theorem dL_acts_425 : decode cL_acts 425 = .ok (.iconst 1, 1) := by decide +kernel
theorem dL_acts_426 : decode cL_acts 426 = .ok (.iload 9, 2) := by decide +kernel
theorem dL_acts_428 : decode cL_acts 428 = .ok (.iconst 3, 1) := by decide +kernel
theorem dL_acts_429 : decode cL_acts 429 = .ok (.idiv, 1) := by decide +kernel
theorem dL_acts_430 : decode cL_acts 430 = .ok (.iload 9, 2) := by decide +kernel
theorem dL_acts_432 : decode cL_acts 432 = .ok (.iconst 2, 1) := by decide +kernel
theorem dL_acts_433 : decode cL_acts 433 = .ok (.irem, 1) := by decide +kernel
theorem dL_acts_434 : decode cL_acts 434 = .ok (.ifCond .ne 8, 3) := by decide +kernel
theorem dL_acts_437 : decode cL_acts 437 = .ok (.bipush 30, 2) := by decide +kernel
theorem dL_acts_439 : decode cL_acts 439 = .ok (.goto 6, 3) := by decide +kernel
theorem dL_acts_442 : decode cL_acts 442 = .ok (.sipush 999, 3) := by decide +kernel
theorem dL_acts_445 : decode cL_acts 445 = .ok (.irem, 1) := by decide +kernel
theorem dL_acts_446 : decode cL_acts 446 = .ok (.iadd, 1) := by decide +kernel
theorem dL_acts_447 : decode cL_acts 447 = .ok (.goto 11, 3) := by decide +kernel
theorem dL_acts_450 : decode cL_acts 450 = .ok (.iload 9, 2) := by decide +kernel
theorem dL_acts_452 : decode cL_acts 452 = .ok (.iconst 3, 1) := by decide +kernel
theorem dL_acts_453 : decode cL_acts 453 = .ok (.idiv, 1) := by decide +kernel
theorem dL_acts_454 : decode cL_acts 454 = .ok (.sipush 1000, 3) := by decide +kernel
theorem dL_acts_457 : decode cL_acts 457 = .ok (.irem, 1) := by decide +kernel
theorem dL_acts_458 : decode cL_acts 458 = .ok (.iastore, 1) := by decide +kernel
theorem dL_acts_459 : decode cL_acts 459 = .ok (.aload_n 0, 1) := by decide +kernel
theorem dL_acts_460 : decode cL_acts 460 = .ok (.iload 11, 2) := by decide +kernel
theorem dL_acts_462 : decode cL_acts 462 = .ok (.aload_n 1, 1) := by decide +kernel
theorem dL_acts_463 : decode cL_acts 463 = .ok (.iconst 5, 1) := by decide +kernel
theorem dL_acts_464 : decode cL_acts 464 = .ok (.iload 11, 2) := by decide +kernel
theorem dL_acts_466 : decode cL_acts 466 = .ok (.iadd, 1) := by decide +kernel
theorem dL_acts_467 : decode cL_acts 467 = .ok (.iaload, 1) := by decide +kernel
theorem dL_acts_468 : decode cL_acts 468 = .ok (.invokevirtual 97, 3) := by decide +kernel
theorem dL_acts_471 : decode cL_acts 471 = .ok (.iload 12, 2) := by decide +kernel
theorem dL_acts_473 : decode cL_acts 473 = .ok (.if_icmp .ne 7, 3) := by decide +kernel
theorem dL_acts_476 : decode cL_acts 476 = .ok (.iconst 1, 1) := by decide +kernel
theorem dL_acts_477 : decode cL_acts 477 = .ok (.goto 4, 3) := by decide +kernel
theorem dL_acts_480 : decode cL_acts 480 = .ok (.iconst 0, 1) := by decide +kernel
theorem dL_acts_481 : decode cL_acts 481 = .ok (.ireturn, 1) := by decide +kernel
theorem dL_areBicycles_0 : decode cL_areBicycles 0 = .ok (.aload_n 0, 1) := by decide +kernel
theorem dL_areBicycles_1 : decode cL_areBicycles 1 = .ok (.aload_n 1, 1) := by decide +kernel
theorem dL_areBicycles_2 : decode cL_areBicycles 2 = .ok (.iconst 1, 1) := by decide +kernel
theorem dL_areBicycles_3 : decode cL_areBicycles 3 = .ok (.iaload, 1) := by decide +kernel
theorem dL_areBicycles_4 : decode cL_areBicycles 4 = .ok (.iconst 0, 1) := by decide +kernel
theorem dL_areBicycles_5 : decode cL_areBicycles 5 = .ok (.invokevirtual 100, 3) := by decide +kernel
theorem dL_areBicycles_8 : decode cL_areBicycles 8 = .ok (.iconst (-1), 1) := by decide +kernel
theorem dL_areBicycles_9 : decode cL_areBicycles 9 = .ok (.if_icmp .ne 7, 3) := by decide +kernel
theorem dL_areBicycles_12 : decode cL_areBicycles 12 = .ok (.iconst 1, 1) := by decide +kernel
theorem dL_areBicycles_13 : decode cL_areBicycles 13 = .ok (.goto 4, 3) := by decide +kernel
theorem dL_areBicycles_16 : decode cL_areBicycles 16 = .ok (.iconst 0, 1) := by decide +kernel
theorem dL_areBicycles_17 : decode cL_areBicycles 17 = .ok (.istore 4, 2) := by decide +kernel
theorem dL_areBicycles_19 : decode cL_areBicycles 19 = .ok (.iconst 0, 1) := by decide +kernel
theorem dL_areBicycles_20 : decode cL_areBicycles 20 = .ok (.istore 5, 2) := by decide +kernel
theorem dL_areBicycles_22 : decode cL_areBicycles 22 = .ok (.iconst 4, 1) := by decide +kernel
theorem dL_areBicycles_23 : decode cL_areBicycles 23 = .ok (.newarray .int, 2) := by decide +kernel
theorem dL_areBicycles_25 : decode cL_areBicycles 25 = .ok (.astore 6, 2) := by decide +kernel
theorem dL_areBicycles_27 : decode cL_areBicycles 27 = .ok (.iconst 0, 1) := by decide +kernel
theorem dL_areBicycles_28 : decode cL_areBicycles 28 = .ok (.istore 7, 2) := by decide +kernel
theorem dL_areBicycles_30 : decode cL_areBicycles 30 = .ok (.iload 7, 2) := by decide +kernel
theorem dL_areBicycles_32 : decode cL_areBicycles 32 = .ok (.aload_n 1, 1) := by decide +kernel
theorem dL_areBicycles_33 : decode cL_areBicycles 33 = .ok (.iconst 1, 1) := by decide +kernel
theorem dL_areBicycles_34 : decode cL_areBicycles 34 = .ok (.iaload, 1) := by decide +kernel
theorem dL_areBicycles_35 : decode cL_areBicycles 35 = .ok (.if_icmp .ge 142, 3) := by decide +kernel
theorem dL_areBicycles_38 : decode cL_areBicycles 38 = .ok (.iload 4, 2) := by decide +kernel
theorem dL_areBicycles_40 : decode cL_areBicycles 40 = .ok (.ifCond .eq 137, 3) := by decide +kernel
theorem dL_areBicycles_43 : decode cL_areBicycles 43 = .ok (.iload 5, 2) := by decide +kernel
theorem dL_areBicycles_45 : decode cL_areBicycles 45 = .ok (.aload_n 3, 1) := by decide +kernel
theorem dL_areBicycles_46 : decode cL_areBicycles 46 = .ok (.iconst 3, 1) := by decide +kernel
theorem dL_areBicycles_47 : decode cL_areBicycles 47 = .ok (.iload 7, 2) := by decide +kernel
theorem dL_areBicycles_49 : decode cL_areBicycles 49 = .ok (.imul, 1) := by decide +kernel
theorem dL_areBicycles_50 : decode cL_areBicycles 50 = .ok (.iaload, 1) := by decide +kernel
theorem dL_areBicycles_51 : decode cL_areBicycles 51 = .ok (.iadd, 1) := by decide +kernel
theorem dL_areBicycles_52 : decode cL_areBicycles 52 = .ok (.istore 5, 2) := by decide +kernel
theorem dL_areBicycles_54 : decode cL_areBicycles 54 = .ok (.aload 6, 2) := by decide +kernel
theorem dL_areBicycles_56 : decode cL_areBicycles 56 = .ok (.aload_n 2, 1) := by decide +kernel
theorem dL_areBicycles_57 : decode cL_areBicycles 57 = .ok (.iconst 3, 1) := by decide +kernel
theorem dL_areBicycles_58 : decode cL_areBicycles 58 = .ok (.iload 7, 2) := by decide +kernel
theorem dL_areBicycles_60 : decode cL_areBicycles 60 = .ok (.imul, 1) := by decide +kernel
theorem dL_areBicycles_61 : decode cL_areBicycles 61 = .ok (.iaload, 1) := by decide +kernel
theorem dL_areBicycles_62 : decode cL_areBicycles 62 = .ok (.dup2, 1) := by decide +kernel
theorem dL_areBicycles_63 : decode cL_areBicycles 63 = .ok (.iaload, 1) := by decide +kernel
theorem dL_areBicycles_64 : decode cL_areBicycles 64 = .ok (.iconst 1, 1) := by decide +kernel
theorem dL_areBicycles_65 : decode cL_areBicycles 65 = .ok (.iadd, 1) := by decide +kernel
theorem dL_areBicycles_66 : decode cL_areBicycles 66 = .ok (.iastore, 1) := by decide +kernel
theorem dL_areBicycles_67 : decode cL_areBicycles 67 = .ok (.aload_n 0, 1) := by decide +kernel
theorem dL_areBicycles_68 : decode cL_areBicycles 68 = .ok (.iload 7, 2) := by decide +kernel
theorem dL_areBicycles_70 : decode cL_areBicycles 70 = .ok (.iconst 0, 1) := by decide +kernel
theorem dL_areBicycles_71 : decode cL_areBicycles 71 = .ok (.invokevirtual 100, 3) := by decide +kernel
theorem dL_areBicycles_74 : decode cL_areBicycles 74 = .ok (.aload_n 2, 1) := by decide +kernel
theorem dL_areBicycles_75 : decode cL_areBicycles 75 = .ok (.iconst 3, 1) := by decide +kernel
theorem dL_areBicycles_76 : decode cL_areBicycles 76 = .ok (.iload 7, 2) := by decide +kernel
theorem dL_areBicycles_78 : decode cL_areBicycles 78 = .ok (.imul, 1) := by decide +kernel
theorem dL_areBicycles_79 : decode cL_areBicycles 79 = .ok (.iaload, 1) := by decide +kernel
theorem dL_areBicycles_80 : decode cL_areBicycles 80 = .ok (.if_icmp .ne 88, 3) := by decide +kernel
theorem dL_areBicycles_83 : decode cL_areBicycles 83 = .ok (.aload_n 0, 1) := by decide +kernel
theorem dL_areBicycles_84 : decode cL_areBicycles 84 = .ok (.iload 7, 2) := by decide +kernel
theorem dL_areBicycles_86 : decode cL_areBicycles 86 = .ok (.iconst 1, 1) := by decide +kernel
theorem dL_areBicycles_87 : decode cL_areBicycles 87 = .ok (.invokevirtual 100, 3) := by decide +kernel
theorem dL_areBicycles_90 : decode cL_areBicycles 90 = .ok (.aload_n 2, 1) := by decide +kernel
theorem dL_areBicycles_91 : decode cL_areBicycles 91 = .ok (.iconst 3, 1) := by decide +kernel
theorem dL_areBicycles_92 : decode cL_areBicycles 92 = .ok (.iload 7, 2) := by decide +kernel
theorem dL_areBicycles_94 : decode cL_areBicycles 94 = .ok (.imul, 1) := by decide +kernel
theorem dL_areBicycles_95 : decode cL_areBicycles 95 = .ok (.iconst 1, 1) := by decide +kernel
theorem dL_areBicycles_96 : decode cL_areBicycles 96 = .ok (.iadd, 1) := by decide +kernel
theorem dL_areBicycles_97 : decode cL_areBicycles 97 = .ok (.iaload, 1) := by decide +kernel
theorem dL_areBicycles_98 : decode cL_areBicycles 98 = .ok (.if_icmp .ne 70, 3) := by decide +kernel
theorem dL_areBicycles_101 : decode cL_areBicycles 101 = .ok (.aload_n 0, 1) := by decide +kernel
theorem dL_areBicycles_102 : decode cL_areBicycles 102 = .ok (.iload 7, 2) := by decide +kernel
theorem dL_areBicycles_104 : decode cL_areBicycles 104 = .ok (.iconst 2, 1) := by decide +kernel
theorem dL_areBicycles_105 : decode cL_areBicycles 105 = .ok (.invokevirtual 100, 3) := by decide +kernel
theorem dL_areBicycles_108 : decode cL_areBicycles 108 = .ok (.aload_n 2, 1) := by decide +kernel
theorem dL_areBicycles_109 : decode cL_areBicycles 109 = .ok (.iconst 3, 1) := by decide +kernel
theorem dL_areBicycles_110 : decode cL_areBicycles 110 = .ok (.iload 7, 2) := by decide +kernel
theorem dL_areBicycles_112 : decode cL_areBicycles 112 = .ok (.imul, 1) := by decide +kernel
theorem dL_areBicycles_113 : decode cL_areBicycles 113 = .ok (.iconst 2, 1) := by decide +kernel
theorem dL_areBicycles_114 : decode cL_areBicycles 114 = .ok (.iadd, 1) := by decide +kernel
theorem dL_areBicycles_115 : decode cL_areBicycles 115 = .ok (.iaload, 1) := by decide +kernel
theorem dL_areBicycles_116 : decode cL_areBicycles 116 = .ok (.if_icmp .ne 52, 3) := by decide +kernel
theorem dL_areBicycles_119 : decode cL_areBicycles 119 = .ok (.aload_n 0, 1) := by decide +kernel
theorem dL_areBicycles_120 : decode cL_areBicycles 120 = .ok (.iload 7, 2) := by decide +kernel
theorem dL_areBicycles_122 : decode cL_areBicycles 122 = .ok (.iconst 3, 1) := by decide +kernel
theorem dL_areBicycles_123 : decode cL_areBicycles 123 = .ok (.invokevirtual 100, 3) := by decide +kernel
theorem dL_areBicycles_126 : decode cL_areBicycles 126 = .ok (.aload_n 3, 1) := by decide +kernel
theorem dL_areBicycles_127 : decode cL_areBicycles 127 = .ok (.iconst 3, 1) := by decide +kernel
theorem dL_areBicycles_128 : decode cL_areBicycles 128 = .ok (.iload 7, 2) := by decide +kernel
theorem dL_areBicycles_130 : decode cL_areBicycles 130 = .ok (.imul, 1) := by decide +kernel
theorem dL_areBicycles_131 : decode cL_areBicycles 131 = .ok (.iaload, 1) := by decide +kernel
theorem dL_areBicycles_132 : decode cL_areBicycles 132 = .ok (.if_icmp .ne 36, 3) := by decide +kernel
theorem dL_areBicycles_135 : decode cL_areBicycles 135 = .ok (.aload_n 0, 1) := by decide +kernel
theorem dL_areBicycles_136 : decode cL_areBicycles 136 = .ok (.iload 7, 2) := by decide +kernel
theorem dL_areBicycles_138 : decode cL_areBicycles 138 = .ok (.iconst 4, 1) := by decide +kernel
theorem dL_areBicycles_139 : decode cL_areBicycles 139 = .ok (.invokevirtual 100, 3) := by decide +kernel
theorem dL_areBicycles_142 : decode cL_areBicycles 142 = .ok (.aload_n 3, 1) := by decide +kernel
theorem dL_areBicycles_143 : decode cL_areBicycles 143 = .ok (.iconst 3, 1) := by decide +kernel
theorem dL_areBicycles_144 : decode cL_areBicycles 144 = .ok (.iload 7, 2) := by decide +kernel
theorem dL_areBicycles_146 : decode cL_areBicycles 146 = .ok (.imul, 1) := by decide +kernel
theorem dL_areBicycles_147 : decode cL_areBicycles 147 = .ok (.iconst 1, 1) := by decide +kernel
theorem dL_areBicycles_148 : decode cL_areBicycles 148 = .ok (.iadd, 1) := by decide +kernel
theorem dL_areBicycles_149 : decode cL_areBicycles 149 = .ok (.iaload, 1) := by decide +kernel
theorem dL_areBicycles_150 : decode cL_areBicycles 150 = .ok (.if_icmp .ne 18, 3) := by decide +kernel
theorem dL_areBicycles_153 : decode cL_areBicycles 153 = .ok (.aload_n 0, 1) := by decide +kernel
theorem dL_areBicycles_154 : decode cL_areBicycles 154 = .ok (.iload 7, 2) := by decide +kernel
theorem dL_areBicycles_156 : decode cL_areBicycles 156 = .ok (.iconst 5, 1) := by decide +kernel
theorem dL_areBicycles_157 : decode cL_areBicycles 157 = .ok (.invokevirtual 100, 3) := by decide +kernel
theorem dL_areBicycles_160 : decode cL_areBicycles 160 = .ok (.iconst (-1), 1) := by decide +kernel
theorem dL_areBicycles_161 : decode cL_areBicycles 161 = .ok (.if_icmp .ne 7, 3) := by decide +kernel
theorem dL_areBicycles_164 : decode cL_areBicycles 164 = .ok (.iconst 1, 1) := by decide +kernel
theorem dL_areBicycles_165 : decode cL_areBicycles 165 = .ok (.goto 4, 3) := by decide +kernel
theorem dL_areBicycles_168 : decode cL_areBicycles 168 = .ok (.iconst 0, 1) := by decide +kernel
theorem dL_areBicycles_169 : decode cL_areBicycles 169 = .ok (.istore 4, 2) := by decide +kernel
theorem dL_areBicycles_171 : decode cL_areBicycles 171 = .ok (.iinc 7 1, 3) := by decide +kernel
theorem dL_areBicycles_174 : decode cL_areBicycles 174 = .ok (.goto (-144), 3) := by decide +kernel
theorem dL_areBicycles_177 : decode cL_areBicycles 177 = .ok (.iload 4, 2) := by decide +kernel
theorem dL_areBicycles_179 : decode cL_areBicycles 179 = .ok (.ifCond .eq 69, 3) := by decide +kernel
theorem dL_areBicycles_182 : decode cL_areBicycles 182 = .ok (.aload_n 0, 1) := by decide +kernel
theorem dL_areBicycles_183 : decode cL_areBicycles 183 = .ok (.iconst 5, 1) := by decide +kernel
theorem dL_areBicycles_184 : decode cL_areBicycles 184 = .ok (.invokevirtual 103, 3) := by decide +kernel
theorem dL_areBicycles_187 : decode cL_areBicycles 187 = .ok (.aload 6, 2) := by decide +kernel
theorem dL_areBicycles_189 : decode cL_areBicycles 189 = .ok (.iconst 0, 1) := by decide +kernel
theorem dL_areBicycles_190 : decode cL_areBicycles 190 = .ok (.iaload, 1) := by decide +kernel
theorem dL_areBicycles_191 : decode cL_areBicycles 191 = .ok (.if_icmp .ne 57, 3) := by decide +kernel
theorem dL_areBicycles_194 : decode cL_areBicycles 194 = .ok (.aload_n 0, 1) := by decide +kernel
theorem dL_areBicycles_195 : decode cL_areBicycles 195 = .ok (.bipush 6, 2) := by decide +kernel
theorem dL_areBicycles_197 : decode cL_areBicycles 197 = .ok (.invokevirtual 103, 3) := by decide +kernel
theorem dL_areBicycles_200 : decode cL_areBicycles 200 = .ok (.aload 6, 2) := by decide +kernel
theorem dL_areBicycles_202 : decode cL_areBicycles 202 = .ok (.iconst 1, 1) := by decide +kernel
theorem dL_areBicycles_203 : decode cL_areBicycles 203 = .ok (.iaload, 1) := by decide +kernel
theorem dL_areBicycles_204 : decode cL_areBicycles 204 = .ok (.if_icmp .ne 44, 3) := by decide +kernel
theorem dL_areBicycles_207 : decode cL_areBicycles 207 = .ok (.aload_n 0, 1) := by decide +kernel
theorem dL_areBicycles_208 : decode cL_areBicycles 208 = .ok (.bipush 7, 2) := by decide +kernel
theorem dL_areBicycles_210 : decode cL_areBicycles 210 = .ok (.invokevirtual 103, 3) := by decide +kernel
theorem dL_areBicycles_213 : decode cL_areBicycles 213 = .ok (.aload 6, 2) := by decide +kernel
theorem dL_areBicycles_215 : decode cL_areBicycles 215 = .ok (.iconst 2, 1) := by decide +kernel
theorem dL_areBicycles_216 : decode cL_areBicycles 216 = .ok (.iaload, 1) := by decide +kernel
theorem dL_areBicycles_217 : decode cL_areBicycles 217 = .ok (.if_icmp .ne 31, 3) := by decide +kernel
theorem dL_areBicycles_220 : decode cL_areBicycles 220 = .ok (.aload_n 0, 1) := by decide +kernel
theorem dL_areBicycles_221 : decode cL_areBicycles 221 = .ok (.bipush 8, 2) := by decide +kernel
theorem dL_areBicycles_223 : decode cL_areBicycles 223 = .ok (.invokevirtual 103, 3) := by decide +kernel
theorem dL_areBicycles_226 : decode cL_areBicycles 226 = .ok (.aload 6, 2) := by decide +kernel
theorem dL_areBicycles_228 : decode cL_areBicycles 228 = .ok (.iconst 3, 1) := by decide +kernel
theorem dL_areBicycles_229 : decode cL_areBicycles 229 = .ok (.iaload, 1) := by decide +kernel
theorem dL_areBicycles_230 : decode cL_areBicycles 230 = .ok (.if_icmp .ne 18, 3) := by decide +kernel
theorem dL_areBicycles_233 : decode cL_areBicycles 233 = .ok (.aload_n 0, 1) := by decide +kernel
theorem dL_areBicycles_234 : decode cL_areBicycles 234 = .ok (.bipush 9, 2) := by decide +kernel
theorem dL_areBicycles_236 : decode cL_areBicycles 236 = .ok (.invokevirtual 103, 3) := by decide +kernel
theorem dL_areBicycles_239 : decode cL_areBicycles 239 = .ok (.iload 5, 2) := by decide +kernel
theorem dL_areBicycles_241 : decode cL_areBicycles 241 = .ok (.if_icmp .ne 7, 3) := by decide +kernel
theorem dL_areBicycles_244 : decode cL_areBicycles 244 = .ok (.iconst 1, 1) := by decide +kernel
theorem dL_areBicycles_245 : decode cL_areBicycles 245 = .ok (.goto 4, 3) := by decide +kernel
theorem dL_areBicycles_248 : decode cL_areBicycles 248 = .ok (.iconst 0, 1) := by decide +kernel
theorem dL_areBicycles_249 : decode cL_areBicycles 249 = .ok (.ireturn, 1) := by decide +kernel
theorem dL_areRiders_0 : decode cL_areRiders 0 = .ok (.aload_n 0, 1) := by decide +kernel
theorem dL_areRiders_1 : decode cL_areRiders 1 = .ok (.aload_n 1, 1) := by decide +kernel
theorem dL_areRiders_2 : decode cL_areRiders 2 = .ok (.iconst 2, 1) := by decide +kernel
theorem dL_areRiders_3 : decode cL_areRiders 3 = .ok (.iaload, 1) := by decide +kernel
theorem dL_areRiders_4 : decode cL_areRiders 4 = .ok (.iconst 0, 1) := by decide +kernel
theorem dL_areRiders_5 : decode cL_areRiders 5 = .ok (.invokevirtual 106, 3) := by decide +kernel
theorem dL_areRiders_8 : decode cL_areRiders 8 = .ok (.iconst (-1), 1) := by decide +kernel
theorem dL_areRiders_9 : decode cL_areRiders 9 = .ok (.if_icmp .ne 7, 3) := by decide +kernel
theorem dL_areRiders_12 : decode cL_areRiders 12 = .ok (.iconst 1, 1) := by decide +kernel
theorem dL_areRiders_13 : decode cL_areRiders 13 = .ok (.goto 4, 3) := by decide +kernel
theorem dL_areRiders_16 : decode cL_areRiders 16 = .ok (.iconst 0, 1) := by decide +kernel
theorem dL_areRiders_17 : decode cL_areRiders 17 = .ok (.istore 4, 2) := by decide +kernel
theorem dL_areRiders_19 : decode cL_areRiders 19 = .ok (.iconst 0, 1) := by decide +kernel
theorem dL_areRiders_20 : decode cL_areRiders 20 = .ok (.istore 5, 2) := by decide +kernel
theorem dL_areRiders_22 : decode cL_areRiders 22 = .ok (.iconst 0, 1) := by decide +kernel
theorem dL_areRiders_23 : decode cL_areRiders 23 = .ok (.istore 6, 2) := by decide +kernel
theorem dL_areRiders_25 : decode cL_areRiders 25 = .ok (.iconst 0, 1) := by decide +kernel
theorem dL_areRiders_26 : decode cL_areRiders 26 = .ok (.istore 7, 2) := by decide +kernel
theorem dL_areRiders_28 : decode cL_areRiders 28 = .ok (.iload 7, 2) := by decide +kernel
theorem dL_areRiders_30 : decode cL_areRiders 30 = .ok (.aload_n 1, 1) := by decide +kernel
theorem dL_areRiders_31 : decode cL_areRiders 31 = .ok (.iconst 2, 1) := by decide +kernel
theorem dL_areRiders_32 : decode cL_areRiders 32 = .ok (.iaload, 1) := by decide +kernel
theorem dL_areRiders_33 : decode cL_areRiders 33 = .ok (.if_icmp .ge 286, 3) := by decide +kernel
theorem dL_areRiders_36 : decode cL_areRiders 36 = .ok (.iload 4, 2) := by decide +kernel
theorem dL_areRiders_38 : decode cL_areRiders 38 = .ok (.ifCond .eq 281, 3) := by decide +kernel
theorem dL_areRiders_41 : decode cL_areRiders 41 = .ok (.aload_n 2, 1) := by decide +kernel
theorem dL_areRiders_42 : decode cL_areRiders 42 = .ok (.iconst 5, 1) := by decide +kernel
theorem dL_areRiders_43 : decode cL_areRiders 43 = .ok (.iload 7, 2) := by decide +kernel
theorem dL_areRiders_45 : decode cL_areRiders 45 = .ok (.imul, 1) := by decide +kernel
theorem dL_areRiders_46 : decode cL_areRiders 46 = .ok (.iconst 2, 1) := by decide +kernel
theorem dL_areRiders_47 : decode cL_areRiders 47 = .ok (.iadd, 1) := by decide +kernel
theorem dL_areRiders_48 : decode cL_areRiders 48 = .ok (.iaload, 1) := by decide +kernel
theorem dL_areRiders_49 : decode cL_areRiders 49 = .ok (.ifCond .lt 7, 3) := by decide +kernel
theorem dL_areRiders_52 : decode cL_areRiders 52 = .ok (.iconst 1, 1) := by decide +kernel
theorem dL_areRiders_53 : decode cL_areRiders 53 = .ok (.goto 4, 3) := by decide +kernel
theorem dL_areRiders_56 : decode cL_areRiders 56 = .ok (.iconst 0, 1) := by decide +kernel
theorem dL_areRiders_57 : decode cL_areRiders 57 = .ok (.istore 8, 2) := by decide +kernel
theorem dL_areRiders_59 : decode cL_areRiders 59 = .ok (.iload 5, 2) := by decide +kernel
theorem dL_areRiders_61 : decode cL_areRiders 61 = .ok (.aload_n 2, 1) := by decide +kernel
theorem dL_areRiders_62 : decode cL_areRiders 62 = .ok (.iconst 5, 1) := by decide +kernel
theorem dL_areRiders_63 : decode cL_areRiders 63 = .ok (.iload 7, 2) := by decide +kernel
theorem dL_areRiders_65 : decode cL_areRiders 65 = .ok (.imul, 1) := by decide +kernel
theorem dL_areRiders_66 : decode cL_areRiders 66 = .ok (.iaload, 1) := by decide +kernel
theorem dL_areRiders_67 : decode cL_areRiders 67 = .ok (.iadd, 1) := by decide +kernel
theorem dL_areRiders_68 : decode cL_areRiders 68 = .ok (.istore 5, 2) := by decide +kernel
theorem dL_areRiders_70 : decode cL_areRiders 70 = .ok (.iload 6, 2) := by decide +kernel
theorem dL_areRiders_72 : decode cL_areRiders 72 = .ok (.aload_n 3, 1) := by decide +kernel
theorem dL_areRiders_73 : decode cL_areRiders 73 = .ok (.iconst 4, 1) := by decide +kernel
theorem dL_areRiders_74 : decode cL_areRiders 74 = .ok (.iload 7, 2) := by decide +kernel
theorem dL_areRiders_76 : decode cL_areRiders 76 = .ok (.imul, 1) := by decide +kernel
theorem dL_areRiders_77 : decode cL_areRiders 77 = .ok (.iconst 2, 1) := by decide +kernel
theorem dL_areRiders_78 : decode cL_areRiders 78 = .ok (.iadd, 1) := by decide +kernel
theorem dL_areRiders_79 : decode cL_areRiders 79 = .ok (.iaload, 1) := by decide +kernel
theorem dL_areRiders_80 : decode cL_areRiders 80 = .ok (.iload 8, 2) := by decide +kernel
theorem dL_areRiders_82 : decode cL_areRiders 82 = .ok (.ifCond .eq 7, 3) := by decide +kernel
theorem dL_areRiders_85 : decode cL_areRiders 85 = .ok (.iconst 1, 1) := by decide +kernel
theorem dL_areRiders_86 : decode cL_areRiders 86 = .ok (.goto 4, 3) := by decide +kernel
theorem dL_areRiders_89 : decode cL_areRiders 89 = .ok (.iconst 0, 1) := by decide +kernel
theorem dL_areRiders_90 : decode cL_areRiders 90 = .ok (.iadd, 1) := by decide +kernel
theorem dL_areRiders_91 : decode cL_areRiders 91 = .ok (.iadd, 1) := by decide +kernel
theorem dL_areRiders_92 : decode cL_areRiders 92 = .ok (.istore 6, 2) := by decide +kernel
theorem dL_areRiders_94 : decode cL_areRiders 94 = .ok (.aload_n 0, 1) := by decide +kernel
theorem dL_areRiders_95 : decode cL_areRiders 95 = .ok (.iload 7, 2) := by decide +kernel
theorem dL_areRiders_97 : decode cL_areRiders 97 = .ok (.iconst 0, 1) := by decide +kernel
theorem dL_areRiders_98 : decode cL_areRiders 98 = .ok (.invokevirtual 106, 3) := by decide +kernel
theorem dL_areRiders_101 : decode cL_areRiders 101 = .ok (.aload_n 2, 1) := by decide +kernel
theorem dL_areRiders_102 : decode cL_areRiders 102 = .ok (.iconst 5, 1) := by decide +kernel
theorem dL_areRiders_103 : decode cL_areRiders 103 = .ok (.iload 7, 2) := by decide +kernel
theorem dL_areRiders_105 : decode cL_areRiders 105 = .ok (.imul, 1) := by decide +kernel
theorem dL_areRiders_106 : decode cL_areRiders 106 = .ok (.iaload, 1) := by decide +kernel
theorem dL_areRiders_107 : decode cL_areRiders 107 = .ok (.if_icmp .ne 203, 3) := by decide +kernel
theorem dL_areRiders_110 : decode cL_areRiders 110 = .ok (.aload_n 0, 1) := by decide +kernel
theorem dL_areRiders_111 : decode cL_areRiders 111 = .ok (.iload 7, 2) := by decide +kernel
theorem dL_areRiders_113 : decode cL_areRiders 113 = .ok (.iconst 1, 1) := by decide +kernel
theorem dL_areRiders_114 : decode cL_areRiders 114 = .ok (.invokevirtual 106, 3) := by decide +kernel
theorem dL_areRiders_117 : decode cL_areRiders 117 = .ok (.aload_n 2, 1) := by decide +kernel
theorem dL_areRiders_118 : decode cL_areRiders 118 = .ok (.iconst 5, 1) := by decide +kernel
theorem dL_areRiders_119 : decode cL_areRiders 119 = .ok (.iload 7, 2) := by decide +kernel
theorem dL_areRiders_121 : decode cL_areRiders 121 = .ok (.imul, 1) := by decide +kernel
theorem dL_areRiders_122 : decode cL_areRiders 122 = .ok (.iconst 1, 1) := by decide +kernel
theorem dL_areRiders_123 : decode cL_areRiders 123 = .ok (.iadd, 1) := by decide +kernel
theorem dL_areRiders_124 : decode cL_areRiders 124 = .ok (.iaload, 1) := by decide +kernel
theorem dL_areRiders_125 : decode cL_areRiders 125 = .ok (.aload_n 1, 1) := by decide +kernel
theorem dL_areRiders_126 : decode cL_areRiders 126 = .ok (.iconst 4, 1) := by decide +kernel
theorem dL_areRiders_127 : decode cL_areRiders 127 = .ok (.iaload, 1) := by decide +kernel
theorem dL_areRiders_128 : decode cL_areRiders 128 = .ok (.if_icmp .le 18, 3) := by decide +kernel
theorem dL_areRiders_131 : decode cL_areRiders 131 = .ok (.aload_n 2, 1) := by decide +kernel
theorem dL_areRiders_132 : decode cL_areRiders 132 = .ok (.iconst 5, 1) := by decide +kernel
theorem dL_areRiders_133 : decode cL_areRiders 133 = .ok (.iload 7, 2) := by decide +kernel
theorem dL_areRiders_135 : decode cL_areRiders 135 = .ok (.imul, 1) := by decide +kernel
theorem dL_areRiders_136 : decode cL_areRiders 136 = .ok (.iconst 1, 1) := by decide +kernel
theorem dL_areRiders_137 : decode cL_areRiders 137 = .ok (.iadd, 1) := by decide +kernel
theorem dL_areRiders_138 : decode cL_areRiders 138 = .ok (.iaload, 1) := by decide +kernel
theorem dL_areRiders_139 : decode cL_areRiders 139 = .ok (.aload_n 1, 1) := by decide +kernel
theorem dL_areRiders_140 : decode cL_areRiders 140 = .ok (.iconst 4, 1) := by decide +kernel
theorem dL_areRiders_141 : decode cL_areRiders 141 = .ok (.iaload, 1) := by decide +kernel
theorem dL_areRiders_142 : decode cL_areRiders 142 = .ok (.isub, 1) := by decide +kernel
theorem dL_areRiders_143 : decode cL_areRiders 143 = .ok (.goto 4, 3) := by decide +kernel
theorem dL_areRiders_146 : decode cL_areRiders 146 = .ok (.iconst 0, 1) := by decide +kernel
theorem dL_areRiders_147 : decode cL_areRiders 147 = .ok (.if_icmp .ne 163, 3) := by decide +kernel
theorem dL_areRiders_150 : decode cL_areRiders 150 = .ok (.aload_n 0, 1) := by decide +kernel
theorem dL_areRiders_151 : decode cL_areRiders 151 = .ok (.iload 7, 2) := by decide +kernel
theorem dL_areRiders_153 : decode cL_areRiders 153 = .ok (.iconst 2, 1) := by decide +kernel
theorem dL_areRiders_154 : decode cL_areRiders 154 = .ok (.invokevirtual 106, 3) := by decide +kernel
theorem dL_areRiders_157 : decode cL_areRiders 157 = .ok (.aload_n 2, 1) := by decide +kernel
theorem dL_areRiders_158 : decode cL_areRiders 158 = .ok (.iconst 5, 1) := by decide +kernel
theorem dL_areRiders_159 : decode cL_areRiders 159 = .ok (.iload 7, 2) := by decide +kernel
theorem dL_areRiders_161 : decode cL_areRiders 161 = .ok (.imul, 1) := by decide +kernel
theorem dL_areRiders_162 : decode cL_areRiders 162 = .ok (.iconst 2, 1) := by decide +kernel
theorem dL_areRiders_163 : decode cL_areRiders 163 = .ok (.iadd, 1) := by decide +kernel
theorem dL_areRiders_164 : decode cL_areRiders 164 = .ok (.iaload, 1) := by decide +kernel
theorem dL_areRiders_165 : decode cL_areRiders 165 = .ok (.if_icmp .ne 145, 3) := by decide +kernel
theorem dL_areRiders_168 : decode cL_areRiders 168 = .ok (.aload_n 0, 1) := by decide +kernel
theorem dL_areRiders_169 : decode cL_areRiders 169 = .ok (.iload 7, 2) := by decide +kernel
theorem dL_areRiders_171 : decode cL_areRiders 171 = .ok (.iconst 3, 1) := by decide +kernel
theorem dL_areRiders_172 : decode cL_areRiders 172 = .ok (.invokevirtual 106, 3) := by decide +kernel
theorem dL_areRiders_175 : decode cL_areRiders 175 = .ok (.iload 8, 2) := by decide +kernel
theorem dL_areRiders_177 : decode cL_areRiders 177 = .ok (.ifCond .eq 18, 3) := by decide +kernel
theorem dL_areRiders_180 : decode cL_areRiders 180 = .ok (.aload_n 1, 1) := by decide +kernel
theorem dL_areRiders_181 : decode cL_areRiders 181 = .ok (.iconst 4, 1) := by decide +kernel
theorem dL_areRiders_182 : decode cL_areRiders 182 = .ok (.iaload, 1) := by decide +kernel
theorem dL_areRiders_183 : decode cL_areRiders 183 = .ok (.aload_n 2, 1) := by decide +kernel
theorem dL_areRiders_184 : decode cL_areRiders 184 = .ok (.iconst 5, 1) := by decide +kernel
theorem dL_areRiders_185 : decode cL_areRiders 185 = .ok (.iload 7, 2) := by decide +kernel
theorem dL_areRiders_187 : decode cL_areRiders 187 = .ok (.imul, 1) := by decide +kernel
theorem dL_areRiders_188 : decode cL_areRiders 188 = .ok (.iconst 3, 1) := by decide +kernel
theorem dL_areRiders_189 : decode cL_areRiders 189 = .ok (.iadd, 1) := by decide +kernel
theorem dL_areRiders_190 : decode cL_areRiders 190 = .ok (.iaload, 1) := by decide +kernel
theorem dL_areRiders_191 : decode cL_areRiders 191 = .ok (.isub, 1) := by decide +kernel
theorem dL_areRiders_192 : decode cL_areRiders 192 = .ok (.goto 5, 3) := by decide +kernel
theorem dL_areRiders_195 : decode cL_areRiders 195 = .ok (.bipush (-4), 2) := by decide +kernel
theorem dL_areRiders_197 : decode cL_areRiders 197 = .ok (.if_icmp .ne 113, 3) := by decide +kernel
theorem dL_areRiders_200 : decode cL_areRiders 200 = .ok (.aload_n 0, 1) := by decide +kernel
theorem dL_areRiders_201 : decode cL_areRiders 201 = .ok (.iload 7, 2) := by decide +kernel
theorem dL_areRiders_203 : decode cL_areRiders 203 = .ok (.iconst 4, 1) := by decide +kernel
theorem dL_areRiders_204 : decode cL_areRiders 204 = .ok (.invokevirtual 106, 3) := by decide +kernel
theorem dL_areRiders_207 : decode cL_areRiders 207 = .ok (.iload 8, 2) := by decide +kernel
theorem dL_areRiders_209 : decode cL_areRiders 209 = .ok (.ifCond .eq 14, 3) := by decide +kernel
theorem dL_areRiders_212 : decode cL_areRiders 212 = .ok (.aload_n 2, 1) := by decide +kernel
theorem dL_areRiders_213 : decode cL_areRiders 213 = .ok (.iconst 5, 1) := by decide +kernel
theorem dL_areRiders_214 : decode cL_areRiders 214 = .ok (.iload 7, 2) := by decide +kernel
theorem dL_areRiders_216 : decode cL_areRiders 216 = .ok (.imul, 1) := by decide +kernel
theorem dL_areRiders_217 : decode cL_areRiders 217 = .ok (.iconst 4, 1) := by decide +kernel
theorem dL_areRiders_218 : decode cL_areRiders 218 = .ok (.iadd, 1) := by decide +kernel
theorem dL_areRiders_219 : decode cL_areRiders 219 = .ok (.iaload, 1) := by decide +kernel
theorem dL_areRiders_220 : decode cL_areRiders 220 = .ok (.goto 5, 3) := by decide +kernel
theorem dL_areRiders_223 : decode cL_areRiders 223 = .ok (.bipush (-4), 2) := by decide +kernel
theorem dL_areRiders_225 : decode cL_areRiders 225 = .ok (.if_icmp .ne 85, 3) := by decide +kernel
theorem dL_areRiders_228 : decode cL_areRiders 228 = .ok (.aload_n 0, 1) := by decide +kernel
theorem dL_areRiders_229 : decode cL_areRiders 229 = .ok (.iload 7, 2) := by decide +kernel
theorem dL_areRiders_231 : decode cL_areRiders 231 = .ok (.iconst 5, 1) := by decide +kernel
theorem dL_areRiders_232 : decode cL_areRiders 232 = .ok (.invokevirtual 106, 3) := by decide +kernel
theorem dL_areRiders_235 : decode cL_areRiders 235 = .ok (.iload 8, 2) := by decide +kernel
theorem dL_areRiders_237 : decode cL_areRiders 237 = .ok (.ifCond .eq 14, 3) := by decide +kernel
theorem dL_areRiders_240 : decode cL_areRiders 240 = .ok (.aload_n 1, 1) := by decide +kernel
theorem dL_areRiders_241 : decode cL_areRiders 241 = .ok (.aload_n 2, 1) := by decide +kernel
theorem dL_areRiders_242 : decode cL_areRiders 242 = .ok (.aload_n 3, 1) := by decide +kernel
theorem dL_areRiders_243 : decode cL_areRiders 243 = .ok (.iload 7, 2) := by decide +kernel
theorem dL_areRiders_245 : decode cL_areRiders 245 = .ok (.invokestatic 45, 3) := by decide +kernel
theorem dL_areRiders_248 : decode cL_areRiders 248 = .ok (.goto 5, 3) := by decide +kernel
theorem dL_areRiders_251 : decode cL_areRiders 251 = .ok (.bipush (-4), 2) := by decide +kernel
theorem dL_areRiders_253 : decode cL_areRiders 253 = .ok (.if_icmp .ne 57, 3) := by decide +kernel
theorem dL_areRiders_256 : decode cL_areRiders 256 = .ok (.aload_n 0, 1) := by decide +kernel
theorem dL_areRiders_257 : decode cL_areRiders 257 = .ok (.iload 7, 2) := by decide +kernel
theorem dL_areRiders_259 : decode cL_areRiders 259 = .ok (.bipush 6, 2) := by decide +kernel
theorem dL_areRiders_261 : decode cL_areRiders 261 = .ok (.invokevirtual 106, 3) := by decide +kernel
theorem dL_areRiders_264 : decode cL_areRiders 264 = .ok (.aload_n 3, 1) := by decide +kernel
theorem dL_areRiders_265 : decode cL_areRiders 265 = .ok (.iconst 4, 1) := by decide +kernel
theorem dL_areRiders_266 : decode cL_areRiders 266 = .ok (.iload 7, 2) := by decide +kernel
theorem dL_areRiders_268 : decode cL_areRiders 268 = .ok (.imul, 1) := by decide +kernel
theorem dL_areRiders_269 : decode cL_areRiders 269 = .ok (.iconst 2, 1) := by decide +kernel
theorem dL_areRiders_270 : decode cL_areRiders 270 = .ok (.iadd, 1) := by decide +kernel
theorem dL_areRiders_271 : decode cL_areRiders 271 = .ok (.iaload, 1) := by decide +kernel
theorem dL_areRiders_272 : decode cL_areRiders 272 = .ok (.if_icmp .ne 38, 3) := by decide +kernel
theorem dL_areRiders_275 : decode cL_areRiders 275 = .ok (.aload_n 0, 1) := by decide +kernel
theorem dL_areRiders_276 : decode cL_areRiders 276 = .ok (.iload 7, 2) := by decide +kernel
theorem dL_areRiders_278 : decode cL_areRiders 278 = .ok (.bipush 7, 2) := by decide +kernel
theorem dL_areRiders_280 : decode cL_areRiders 280 = .ok (.invokevirtual 106, 3) := by decide +kernel
theorem dL_areRiders_283 : decode cL_areRiders 283 = .ok (.aload_n 3, 1) := by decide +kernel
theorem dL_areRiders_284 : decode cL_areRiders 284 = .ok (.iconst 4, 1) := by decide +kernel
theorem dL_areRiders_285 : decode cL_areRiders 285 = .ok (.iload 7, 2) := by decide +kernel
theorem dL_areRiders_287 : decode cL_areRiders 287 = .ok (.imul, 1) := by decide +kernel
theorem dL_areRiders_288 : decode cL_areRiders 288 = .ok (.iconst 3, 1) := by decide +kernel
theorem dL_areRiders_289 : decode cL_areRiders 289 = .ok (.iadd, 1) := by decide +kernel
theorem dL_areRiders_290 : decode cL_areRiders 290 = .ok (.iaload, 1) := by decide +kernel
theorem dL_areRiders_291 : decode cL_areRiders 291 = .ok (.if_icmp .ne 19, 3) := by decide +kernel
theorem dL_areRiders_294 : decode cL_areRiders 294 = .ok (.aload_n 0, 1) := by decide +kernel
theorem dL_areRiders_295 : decode cL_areRiders 295 = .ok (.iload 7, 2) := by decide +kernel
theorem dL_areRiders_297 : decode cL_areRiders 297 = .ok (.bipush 8, 2) := by decide +kernel
theorem dL_areRiders_299 : decode cL_areRiders 299 = .ok (.invokevirtual 106, 3) := by decide +kernel
theorem dL_areRiders_302 : decode cL_areRiders 302 = .ok (.iconst (-1), 1) := by decide +kernel
theorem dL_areRiders_303 : decode cL_areRiders 303 = .ok (.if_icmp .ne 7, 3) := by decide +kernel
theorem dL_areRiders_306 : decode cL_areRiders 306 = .ok (.iconst 1, 1) := by decide +kernel
theorem dL_areRiders_307 : decode cL_areRiders 307 = .ok (.goto 4, 3) := by decide +kernel
theorem dL_areRiders_310 : decode cL_areRiders 310 = .ok (.iconst 0, 1) := by decide +kernel
theorem dL_areRiders_311 : decode cL_areRiders 311 = .ok (.istore 4, 2) := by decide +kernel
theorem dL_areRiders_313 : decode cL_areRiders 313 = .ok (.iinc 7 1, 3) := by decide +kernel
theorem dL_areRiders_316 : decode cL_areRiders 316 = .ok (.goto (-288), 3) := by decide +kernel
theorem dL_areRiders_319 : decode cL_areRiders 319 = .ok (.iconst 0, 1) := by decide +kernel
theorem dL_areRiders_320 : decode cL_areRiders 320 = .ok (.istore 7, 2) := by decide +kernel
theorem dL_areRiders_322 : decode cL_areRiders 322 = .ok (.iconst 0, 1) := by decide +kernel
theorem dL_areRiders_323 : decode cL_areRiders 323 = .ok (.istore 8, 2) := by decide +kernel
theorem dL_areRiders_325 : decode cL_areRiders 325 = .ok (.iload 8, 2) := by decide +kernel
theorem dL_areRiders_327 : decode cL_areRiders 327 = .ok (.aload_n 1, 1) := by decide +kernel
theorem dL_areRiders_328 : decode cL_areRiders 328 = .ok (.iconst 0, 1) := by decide +kernel
theorem dL_areRiders_329 : decode cL_areRiders 329 = .ok (.iaload, 1) := by decide +kernel
theorem dL_areRiders_330 : decode cL_areRiders 330 = .ok (.if_icmp .ge 21, 3) := by decide +kernel
theorem dL_areRiders_333 : decode cL_areRiders 333 = .ok (.iload 7, 2) := by decide +kernel
theorem dL_areRiders_335 : decode cL_areRiders 335 = .ok (.aload_n 0, 1) := by decide +kernel
theorem dL_areRiders_336 : decode cL_areRiders 336 = .ok (.iload 8, 2) := by decide +kernel
theorem dL_areRiders_338 : decode cL_areRiders 338 = .ok (.iconst 5, 1) := by decide +kernel
theorem dL_areRiders_339 : decode cL_areRiders 339 = .ok (.invokevirtual 109, 3) := by decide +kernel
theorem dL_areRiders_342 : decode cL_areRiders 342 = .ok (.iadd, 1) := by decide +kernel
theorem dL_areRiders_343 : decode cL_areRiders 343 = .ok (.istore 7, 2) := by decide +kernel
theorem dL_areRiders_345 : decode cL_areRiders 345 = .ok (.iinc 8 1, 3) := by decide +kernel
theorem dL_areRiders_348 : decode cL_areRiders 348 = .ok (.goto (-23), 3) := by decide +kernel
theorem dL_areRiders_351 : decode cL_areRiders 351 = .ok (.iload 4, 2) := by decide +kernel
theorem dL_areRiders_353 : decode cL_areRiders 353 = .ok (.ifCond .eq 25, 3) := by decide +kernel
theorem dL_areRiders_356 : decode cL_areRiders 356 = .ok (.iload 5, 2) := by decide +kernel
theorem dL_areRiders_358 : decode cL_areRiders 358 = .ok (.aload_n 0, 1) := by decide +kernel
theorem dL_areRiders_359 : decode cL_areRiders 359 = .ok (.bipush 11, 2) := by decide +kernel
theorem dL_areRiders_361 : decode cL_areRiders 361 = .ok (.invokevirtual 103, 3) := by decide +kernel
theorem dL_areRiders_364 : decode cL_areRiders 364 = .ok (.if_icmp .ne 14, 3) := by decide +kernel
theorem dL_areRiders_367 : decode cL_areRiders 367 = .ok (.iload 7, 2) := by decide +kernel
theorem dL_areRiders_369 : decode cL_areRiders 369 = .ok (.iload 6, 2) := by decide +kernel
theorem dL_areRiders_371 : decode cL_areRiders 371 = .ok (.if_icmp .ne 7, 3) := by decide +kernel
theorem dL_areRiders_374 : decode cL_areRiders 374 = .ok (.iconst 1, 1) := by decide +kernel
theorem dL_areRiders_375 : decode cL_areRiders 375 = .ok (.goto 4, 3) := by decide +kernel
theorem dL_areRiders_378 : decode cL_areRiders 378 = .ok (.iconst 0, 1) := by decide +kernel
theorem dL_areRiders_379 : decode cL_areRiders 379 = .ok (.ireturn, 1) := by decide +kernel
theorem dL_isSo_0 : decode cL_isSo 0 = .ok (.aload_n 0, 1) := by decide +kernel
theorem dL_isSo_1 : decode cL_isSo 1 = .ok (.aload_n 1, 1) := by decide +kernel
theorem dL_isSo_2 : decode cL_isSo 2 = .ok (.aload_n 3, 1) := by decide +kernel
theorem dL_isSo_3 : decode cL_isSo 3 = .ok (.aload 4, 2) := by decide +kernel
theorem dL_isSo_5 : decode cL_isSo 5 = .ok (.invokestatic 112, 3) := by decide +kernel
theorem dL_isSo_8 : decode cL_isSo 8 = .ok (.ifCond .eq 43, 3) := by decide +kernel
theorem dL_isSo_11 : decode cL_isSo 11 = .ok (.aload_n 0, 1) := by decide +kernel
theorem dL_isSo_12 : decode cL_isSo 12 = .ok (.aload_n 1, 1) := by decide +kernel
theorem dL_isSo_13 : decode cL_isSo 13 = .ok (.aload 5, 2) := by decide +kernel
theorem dL_isSo_15 : decode cL_isSo 15 = .ok (.aload 6, 2) := by decide +kernel
theorem dL_isSo_17 : decode cL_isSo 17 = .ok (.invokestatic 116, 3) := by decide +kernel
theorem dL_isSo_20 : decode cL_isSo 20 = .ok (.ifCond .eq 31, 3) := by decide +kernel
theorem dL_isSo_23 : decode cL_isSo 23 = .ok (.aload_n 0, 1) := by decide +kernel
theorem dL_isSo_24 : decode cL_isSo 24 = .ok (.aload_n 1, 1) := by decide +kernel
theorem dL_isSo_25 : decode cL_isSo 25 = .ok (.iconst 0, 1) := by decide +kernel
theorem dL_isSo_26 : decode cL_isSo 26 = .ok (.iaload, 1) := by decide +kernel
theorem dL_isSo_27 : decode cL_isSo 27 = .ok (.iconst 0, 1) := by decide +kernel
theorem dL_isSo_28 : decode cL_isSo 28 = .ok (.invokevirtual 109, 3) := by decide +kernel
theorem dL_isSo_31 : decode cL_isSo 31 = .ok (.iconst (-1), 1) := by decide +kernel
theorem dL_isSo_32 : decode cL_isSo 32 = .ok (.if_icmp .ne 19, 3) := by decide +kernel
theorem dL_isSo_35 : decode cL_isSo 35 = .ok (.aload_n 0, 1) := by decide +kernel
theorem dL_isSo_36 : decode cL_isSo 36 = .ok (.aload_n 1, 1) := by decide +kernel
theorem dL_isSo_37 : decode cL_isSo 37 = .ok (.iconst 3, 1) := by decide +kernel
theorem dL_isSo_38 : decode cL_isSo 38 = .ok (.iaload, 1) := by decide +kernel
theorem dL_isSo_39 : decode cL_isSo 39 = .ok (.iconst 0, 1) := by decide +kernel
theorem dL_isSo_40 : decode cL_isSo 40 = .ok (.invokevirtual 119, 3) := by decide +kernel
theorem dL_isSo_43 : decode cL_isSo 43 = .ok (.iconst (-1), 1) := by decide +kernel
theorem dL_isSo_44 : decode cL_isSo 44 = .ok (.if_icmp .ne 7, 3) := by decide +kernel
theorem dL_isSo_47 : decode cL_isSo 47 = .ok (.iconst 1, 1) := by decide +kernel
theorem dL_isSo_48 : decode cL_isSo 48 = .ok (.goto 4, 3) := by decide +kernel
theorem dL_isSo_51 : decode cL_isSo 51 = .ok (.iconst 0, 1) := by decide +kernel
theorem dL_isSo_52 : decode cL_isSo 52 = .ok (.istore 8, 2) := by decide +kernel
theorem dL_isSo_54 : decode cL_isSo 54 = .ok (.iconst 0, 1) := by decide +kernel
theorem dL_isSo_55 : decode cL_isSo 55 = .ok (.istore 9, 2) := by decide +kernel
theorem dL_isSo_57 : decode cL_isSo 57 = .ok (.iconst 0, 1) := by decide +kernel
theorem dL_isSo_58 : decode cL_isSo 58 = .ok (.istore 10, 2) := by decide +kernel
theorem dL_isSo_60 : decode cL_isSo 60 = .ok (.iload 10, 2) := by decide +kernel
theorem dL_isSo_62 : decode cL_isSo 62 = .ok (.aload_n 1, 1) := by decide +kernel
theorem dL_isSo_63 : decode cL_isSo 63 = .ok (.iconst 0, 1) := by decide +kernel
theorem dL_isSo_64 : decode cL_isSo 64 = .ok (.iaload, 1) := by decide +kernel
theorem dL_isSo_65 : decode cL_isSo 65 = .ok (.if_icmp .ge 184, 3) := by decide +kernel
theorem dL_isSo_68 : decode cL_isSo 68 = .ok (.iload 8, 2) := by decide +kernel
theorem dL_isSo_70 : decode cL_isSo 70 = .ok (.ifCond .eq 179, 3) := by decide +kernel
theorem dL_isSo_73 : decode cL_isSo 73 = .ok (.iconst 0, 1) := by decide +kernel
theorem dL_isSo_74 : decode cL_isSo 74 = .ok (.istore 11, 2) := by decide +kernel
theorem dL_isSo_76 : decode cL_isSo 76 = .ok (.iconst 0, 1) := by decide +kernel
theorem dL_isSo_77 : decode cL_isSo 77 = .ok (.istore 12, 2) := by decide +kernel
theorem dL_isSo_79 : decode cL_isSo 79 = .ok (.iload 12, 2) := by decide +kernel
theorem dL_isSo_81 : decode cL_isSo 81 = .ok (.aload_n 1, 1) := by decide +kernel
theorem dL_isSo_82 : decode cL_isSo 82 = .ok (.iconst 1, 1) := by decide +kernel
theorem dL_isSo_83 : decode cL_isSo 83 = .ok (.iaload, 1) := by decide +kernel
theorem dL_isSo_84 : decode cL_isSo 84 = .ok (.if_icmp .ge 44, 3) := by decide +kernel
theorem dL_isSo_87 : decode cL_isSo 87 = .ok (.iload 11, 2) := by decide +kernel
theorem dL_isSo_89 : decode cL_isSo 89 = .ok (.aload_n 3, 1) := by decide +kernel
theorem dL_isSo_90 : decode cL_isSo 90 = .ok (.iconst 3, 1) := by decide +kernel
theorem dL_isSo_91 : decode cL_isSo 91 = .ok (.iload 12, 2) := by decide +kernel
theorem dL_isSo_93 : decode cL_isSo 93 = .ok (.imul, 1) := by decide +kernel
theorem dL_isSo_94 : decode cL_isSo 94 = .ok (.iaload, 1) := by decide +kernel
theorem dL_isSo_95 : decode cL_isSo 95 = .ok (.ifCond .ne 23, 3) := by decide +kernel
theorem dL_isSo_98 : decode cL_isSo 98 = .ok (.aload_n 3, 1) := by decide +kernel
theorem dL_isSo_99 : decode cL_isSo 99 = .ok (.iconst 3, 1) := by decide +kernel
theorem dL_isSo_100 : decode cL_isSo 100 = .ok (.iload 12, 2) := by decide +kernel
theorem dL_isSo_102 : decode cL_isSo 102 = .ok (.imul, 1) := by decide +kernel
theorem dL_isSo_103 : decode cL_isSo 103 = .ok (.iconst 1, 1) := by decide +kernel
theorem dL_isSo_104 : decode cL_isSo 104 = .ok (.iadd, 1) := by decide +kernel
theorem dL_isSo_105 : decode cL_isSo 105 = .ok (.iaload, 1) := by decide +kernel
theorem dL_isSo_106 : decode cL_isSo 106 = .ok (.iload 10, 2) := by decide +kernel
theorem dL_isSo_108 : decode cL_isSo 108 = .ok (.if_icmp .ne 10, 3) := by decide +kernel
theorem dL_isSo_111 : decode cL_isSo 111 = .ok (.iconst 1, 1) := by decide +kernel
theorem dL_isSo_112 : decode cL_isSo 112 = .ok (.iload 12, 2) := by decide +kernel
theorem dL_isSo_114 : decode cL_isSo 114 = .ok (.ishl, 1) := by decide +kernel
theorem dL_isSo_115 : decode cL_isSo 115 = .ok (.goto 4, 3) := by decide +kernel
theorem dL_isSo_118 : decode cL_isSo 118 = .ok (.iconst 0, 1) := by decide +kernel
theorem dL_isSo_119 : decode cL_isSo 119 = .ok (.iadd, 1) := by decide +kernel
theorem dL_isSo_120 : decode cL_isSo 120 = .ok (.istore 11, 2) := by decide +kernel
theorem dL_isSo_122 : decode cL_isSo 122 = .ok (.iinc 12 1, 3) := by decide +kernel
theorem dL_isSo_125 : decode cL_isSo 125 = .ok (.goto (-46), 3) := by decide +kernel
theorem dL_isSo_128 : decode cL_isSo 128 = .ok (.iload 9, 2) := by decide +kernel
theorem dL_isSo_130 : decode cL_isSo 130 = .ok (.aload_n 2, 1) := by decide +kernel
theorem dL_isSo_131 : decode cL_isSo 131 = .ok (.iconst 4, 1) := by decide +kernel
theorem dL_isSo_132 : decode cL_isSo 132 = .ok (.iload 10, 2) := by decide +kernel
theorem dL_isSo_134 : decode cL_isSo 134 = .ok (.imul, 1) := by decide +kernel
theorem dL_isSo_135 : decode cL_isSo 135 = .ok (.iconst 1, 1) := by decide +kernel
theorem dL_isSo_136 : decode cL_isSo 136 = .ok (.iadd, 1) := by decide +kernel
theorem dL_isSo_137 : decode cL_isSo 137 = .ok (.iaload, 1) := by decide +kernel
theorem dL_isSo_138 : decode cL_isSo 138 = .ok (.iadd, 1) := by decide +kernel
theorem dL_isSo_139 : decode cL_isSo 139 = .ok (.istore 9, 2) := by decide +kernel
theorem dL_isSo_141 : decode cL_isSo 141 = .ok (.aload_n 0, 1) := by decide +kernel
theorem dL_isSo_142 : decode cL_isSo 142 = .ok (.iload 10, 2) := by decide +kernel
theorem dL_isSo_144 : decode cL_isSo 144 = .ok (.iconst 0, 1) := by decide +kernel
theorem dL_isSo_145 : decode cL_isSo 145 = .ok (.invokevirtual 109, 3) := by decide +kernel
theorem dL_isSo_148 : decode cL_isSo 148 = .ok (.aload_n 2, 1) := by decide +kernel
theorem dL_isSo_149 : decode cL_isSo 149 = .ok (.iconst 4, 1) := by decide +kernel
theorem dL_isSo_150 : decode cL_isSo 150 = .ok (.iload 10, 2) := by decide +kernel
theorem dL_isSo_152 : decode cL_isSo 152 = .ok (.imul, 1) := by decide +kernel
theorem dL_isSo_153 : decode cL_isSo 153 = .ok (.iaload, 1) := by decide +kernel
theorem dL_isSo_154 : decode cL_isSo 154 = .ok (.if_icmp .ne 86, 3) := by decide +kernel
theorem dL_isSo_157 : decode cL_isSo 157 = .ok (.aload_n 0, 1) := by decide +kernel
theorem dL_isSo_158 : decode cL_isSo 158 = .ok (.iload 10, 2) := by decide +kernel
theorem dL_isSo_160 : decode cL_isSo 160 = .ok (.iconst 1, 1) := by decide +kernel
theorem dL_isSo_161 : decode cL_isSo 161 = .ok (.invokevirtual 109, 3) := by decide +kernel
theorem dL_isSo_164 : decode cL_isSo 164 = .ok (.aload_n 2, 1) := by decide +kernel
theorem dL_isSo_165 : decode cL_isSo 165 = .ok (.iconst 4, 1) := by decide +kernel
theorem dL_isSo_166 : decode cL_isSo 166 = .ok (.iload 10, 2) := by decide +kernel
theorem dL_isSo_168 : decode cL_isSo 168 = .ok (.imul, 1) := by decide +kernel
theorem dL_isSo_169 : decode cL_isSo 169 = .ok (.iconst 1, 1) := by decide +kernel
theorem dL_isSo_170 : decode cL_isSo 170 = .ok (.iadd, 1) := by decide +kernel
theorem dL_isSo_171 : decode cL_isSo 171 = .ok (.iaload, 1) := by decide +kernel
theorem dL_isSo_172 : decode cL_isSo 172 = .ok (.if_icmp .ne 68, 3) := by decide +kernel
theorem dL_isSo_175 : decode cL_isSo 175 = .ok (.aload_n 0, 1) := by decide +kernel
theorem dL_isSo_176 : decode cL_isSo 176 = .ok (.iload 10, 2) := by decide +kernel
theorem dL_isSo_178 : decode cL_isSo 178 = .ok (.iconst 2, 1) := by decide +kernel
theorem dL_isSo_179 : decode cL_isSo 179 = .ok (.invokevirtual 109, 3) := by decide +kernel
theorem dL_isSo_182 : decode cL_isSo 182 = .ok (.iload 11, 2) := by decide +kernel
theorem dL_isSo_184 : decode cL_isSo 184 = .ok (.if_icmp .ne 56, 3) := by decide +kernel
theorem dL_isSo_187 : decode cL_isSo 187 = .ok (.aload_n 0, 1) := by decide +kernel
theorem dL_isSo_188 : decode cL_isSo 188 = .ok (.iload 10, 2) := by decide +kernel
theorem dL_isSo_190 : decode cL_isSo 190 = .ok (.iconst 5, 1) := by decide +kernel
theorem dL_isSo_191 : decode cL_isSo 191 = .ok (.invokevirtual 109, 3) := by decide +kernel
theorem dL_isSo_194 : decode cL_isSo 194 = .ok (.aload_n 2, 1) := by decide +kernel
theorem dL_isSo_195 : decode cL_isSo 195 = .ok (.iconst 4, 1) := by decide +kernel
theorem dL_isSo_196 : decode cL_isSo 196 = .ok (.iload 10, 2) := by decide +kernel
theorem dL_isSo_198 : decode cL_isSo 198 = .ok (.imul, 1) := by decide +kernel
theorem dL_isSo_199 : decode cL_isSo 199 = .ok (.iconst 2, 1) := by decide +kernel
theorem dL_isSo_200 : decode cL_isSo 200 = .ok (.iadd, 1) := by decide +kernel
theorem dL_isSo_201 : decode cL_isSo 201 = .ok (.iaload, 1) := by decide +kernel
theorem dL_isSo_202 : decode cL_isSo 202 = .ok (.if_icmp .ne 38, 3) := by decide +kernel
theorem dL_isSo_205 : decode cL_isSo 205 = .ok (.aload_n 0, 1) := by decide +kernel
theorem dL_isSo_206 : decode cL_isSo 206 = .ok (.iload 10, 2) := by decide +kernel
theorem dL_isSo_208 : decode cL_isSo 208 = .ok (.bipush 6, 2) := by decide +kernel
theorem dL_isSo_210 : decode cL_isSo 210 = .ok (.invokevirtual 109, 3) := by decide +kernel
theorem dL_isSo_213 : decode cL_isSo 213 = .ok (.aload_n 2, 1) := by decide +kernel
theorem dL_isSo_214 : decode cL_isSo 214 = .ok (.iconst 4, 1) := by decide +kernel
theorem dL_isSo_215 : decode cL_isSo 215 = .ok (.iload 10, 2) := by decide +kernel
theorem dL_isSo_217 : decode cL_isSo 217 = .ok (.imul, 1) := by decide +kernel
theorem dL_isSo_218 : decode cL_isSo 218 = .ok (.iconst 3, 1) := by decide +kernel
theorem dL_isSo_219 : decode cL_isSo 219 = .ok (.iadd, 1) := by decide +kernel
theorem dL_isSo_220 : decode cL_isSo 220 = .ok (.iaload, 1) := by decide +kernel
theorem dL_isSo_221 : decode cL_isSo 221 = .ok (.if_icmp .ne 19, 3) := by decide +kernel
theorem dL_isSo_224 : decode cL_isSo 224 = .ok (.aload_n 0, 1) := by decide +kernel
theorem dL_isSo_225 : decode cL_isSo 225 = .ok (.iload 10, 2) := by decide +kernel
theorem dL_isSo_227 : decode cL_isSo 227 = .ok (.bipush 7, 2) := by decide +kernel
theorem dL_isSo_229 : decode cL_isSo 229 = .ok (.invokevirtual 109, 3) := by decide +kernel
theorem dL_isSo_232 : decode cL_isSo 232 = .ok (.iconst (-1), 1) := by decide +kernel
theorem dL_isSo_233 : decode cL_isSo 233 = .ok (.if_icmp .ne 7, 3) := by decide +kernel
theorem dL_isSo_236 : decode cL_isSo 236 = .ok (.iconst 1, 1) := by decide +kernel
theorem dL_isSo_237 : decode cL_isSo 237 = .ok (.goto 4, 3) := by decide +kernel
theorem dL_isSo_240 : decode cL_isSo 240 = .ok (.iconst 0, 1) := by decide +kernel
theorem dL_isSo_241 : decode cL_isSo 241 = .ok (.istore 8, 2) := by decide +kernel
theorem dL_isSo_243 : decode cL_isSo 243 = .ok (.iinc 10 1, 3) := by decide +kernel
theorem dL_isSo_246 : decode cL_isSo 246 = .ok (.goto (-186), 3) := by decide +kernel
theorem dL_isSo_249 : decode cL_isSo 249 = .ok (.iconst 0, 1) := by decide +kernel
theorem dL_isSo_250 : decode cL_isSo 250 = .ok (.istore 10, 2) := by decide +kernel
theorem dL_isSo_252 : decode cL_isSo 252 = .ok (.iload 10, 2) := by decide +kernel
theorem dL_isSo_254 : decode cL_isSo 254 = .ok (.aload_n 1, 1) := by decide +kernel
theorem dL_isSo_255 : decode cL_isSo 255 = .ok (.iconst 3, 1) := by decide +kernel
theorem dL_isSo_256 : decode cL_isSo 256 = .ok (.iaload, 1) := by decide +kernel
theorem dL_isSo_257 : decode cL_isSo 257 = .ok (.if_icmp .ge 178, 3) := by decide +kernel
theorem dL_isSo_260 : decode cL_isSo 260 = .ok (.iload 8, 2) := by decide +kernel
theorem dL_isSo_262 : decode cL_isSo 262 = .ok (.ifCond .eq 173, 3) := by decide +kernel
theorem dL_isSo_265 : decode cL_isSo 265 = .ok (.iconst 0, 1) := by decide +kernel
theorem dL_isSo_266 : decode cL_isSo 266 = .ok (.istore 11, 2) := by decide +kernel
theorem dL_isSo_268 : decode cL_isSo 268 = .ok (.iconst 0, 1) := by decide +kernel
theorem dL_isSo_269 : decode cL_isSo 269 = .ok (.istore 12, 2) := by decide +kernel
theorem dL_isSo_271 : decode cL_isSo 271 = .ok (.iload 12, 2) := by decide +kernel
theorem dL_isSo_273 : decode cL_isSo 273 = .ok (.aload_n 1, 1) := by decide +kernel
theorem dL_isSo_274 : decode cL_isSo 274 = .ok (.iconst 1, 1) := by decide +kernel
theorem dL_isSo_275 : decode cL_isSo 275 = .ok (.iaload, 1) := by decide +kernel
theorem dL_isSo_276 : decode cL_isSo 276 = .ok (.if_icmp .ge 45, 3) := by decide +kernel
theorem dL_isSo_279 : decode cL_isSo 279 = .ok (.iload 11, 2) := by decide +kernel
theorem dL_isSo_281 : decode cL_isSo 281 = .ok (.aload_n 3, 1) := by decide +kernel
theorem dL_isSo_282 : decode cL_isSo 282 = .ok (.iconst 3, 1) := by decide +kernel
theorem dL_isSo_283 : decode cL_isSo 283 = .ok (.iload 12, 2) := by decide +kernel
theorem dL_isSo_285 : decode cL_isSo 285 = .ok (.imul, 1) := by decide +kernel
theorem dL_isSo_286 : decode cL_isSo 286 = .ok (.iaload, 1) := by decide +kernel
theorem dL_isSo_287 : decode cL_isSo 287 = .ok (.iconst 2, 1) := by decide +kernel
theorem dL_isSo_288 : decode cL_isSo 288 = .ok (.if_icmp .ne 23, 3) := by decide +kernel
theorem dL_isSo_291 : decode cL_isSo 291 = .ok (.aload_n 3, 1) := by decide +kernel
theorem dL_isSo_292 : decode cL_isSo 292 = .ok (.iconst 3, 1) := by decide +kernel
theorem dL_isSo_293 : decode cL_isSo 293 = .ok (.iload 12, 2) := by decide +kernel
theorem dL_isSo_295 : decode cL_isSo 295 = .ok (.imul, 1) := by decide +kernel
theorem dL_isSo_296 : decode cL_isSo 296 = .ok (.iconst 1, 1) := by decide +kernel
theorem dL_isSo_297 : decode cL_isSo 297 = .ok (.iadd, 1) := by decide +kernel
theorem dL_isSo_298 : decode cL_isSo 298 = .ok (.iaload, 1) := by decide +kernel
theorem dL_isSo_299 : decode cL_isSo 299 = .ok (.iload 10, 2) := by decide +kernel
theorem dL_isSo_301 : decode cL_isSo 301 = .ok (.if_icmp .ne 10, 3) := by decide +kernel
theorem dL_isSo_304 : decode cL_isSo 304 = .ok (.iconst 1, 1) := by decide +kernel
theorem dL_isSo_305 : decode cL_isSo 305 = .ok (.iload 12, 2) := by decide +kernel
theorem dL_isSo_307 : decode cL_isSo 307 = .ok (.ishl, 1) := by decide +kernel
theorem dL_isSo_308 : decode cL_isSo 308 = .ok (.goto 4, 3) := by decide +kernel
theorem dL_isSo_311 : decode cL_isSo 311 = .ok (.iconst 0, 1) := by decide +kernel
theorem dL_isSo_312 : decode cL_isSo 312 = .ok (.iadd, 1) := by decide +kernel
theorem dL_isSo_313 : decode cL_isSo 313 = .ok (.istore 11, 2) := by decide +kernel
theorem dL_isSo_315 : decode cL_isSo 315 = .ok (.iinc 12 1, 3) := by decide +kernel
theorem dL_isSo_318 : decode cL_isSo 318 = .ok (.goto (-47), 3) := by decide +kernel
theorem dL_isSo_321 : decode cL_isSo 321 = .ok (.aload_n 0, 1) := by decide +kernel
theorem dL_isSo_322 : decode cL_isSo 322 = .ok (.iload 10, 2) := by decide +kernel
theorem dL_isSo_324 : decode cL_isSo 324 = .ok (.iconst 0, 1) := by decide +kernel
theorem dL_isSo_325 : decode cL_isSo 325 = .ok (.invokevirtual 119, 3) := by decide +kernel
theorem dL_isSo_328 : decode cL_isSo 328 = .ok (.aload 7, 2) := by decide +kernel
theorem dL_isSo_330 : decode cL_isSo 330 = .ok (.iconst 3, 1) := by decide +kernel
theorem dL_isSo_331 : decode cL_isSo 331 = .ok (.iload 10, 2) := by decide +kernel
theorem dL_isSo_333 : decode cL_isSo 333 = .ok (.imul, 1) := by decide +kernel
theorem dL_isSo_334 : decode cL_isSo 334 = .ok (.iaload, 1) := by decide +kernel
theorem dL_isSo_335 : decode cL_isSo 335 = .ok (.if_icmp .ne 91, 3) := by decide +kernel
theorem dL_isSo_338 : decode cL_isSo 338 = .ok (.aload_n 0, 1) := by decide +kernel
theorem dL_isSo_339 : decode cL_isSo 339 = .ok (.iload 10, 2) := by decide +kernel
theorem dL_isSo_341 : decode cL_isSo 341 = .ok (.iconst 1, 1) := by decide +kernel
theorem dL_isSo_342 : decode cL_isSo 342 = .ok (.invokevirtual 119, 3) := by decide +kernel
theorem dL_isSo_345 : decode cL_isSo 345 = .ok (.aload 7, 2) := by decide +kernel
theorem dL_isSo_347 : decode cL_isSo 347 = .ok (.iconst 3, 1) := by decide +kernel
theorem dL_isSo_348 : decode cL_isSo 348 = .ok (.iload 10, 2) := by decide +kernel
theorem dL_isSo_350 : decode cL_isSo 350 = .ok (.imul, 1) := by decide +kernel
theorem dL_isSo_351 : decode cL_isSo 351 = .ok (.iconst 1, 1) := by decide +kernel
theorem dL_isSo_352 : decode cL_isSo 352 = .ok (.iadd, 1) := by decide +kernel
theorem dL_isSo_353 : decode cL_isSo 353 = .ok (.iaload, 1) := by decide +kernel
theorem dL_isSo_354 : decode cL_isSo 354 = .ok (.if_icmp .ne 72, 3) := by decide +kernel
theorem dL_isSo_357 : decode cL_isSo 357 = .ok (.aload_n 0, 1) := by decide +kernel
theorem dL_isSo_358 : decode cL_isSo 358 = .ok (.iload 10, 2) := by decide +kernel
theorem dL_isSo_360 : decode cL_isSo 360 = .ok (.iconst 2, 1) := by decide +kernel
theorem dL_isSo_361 : decode cL_isSo 361 = .ok (.invokevirtual 119, 3) := by decide +kernel
theorem dL_isSo_364 : decode cL_isSo 364 = .ok (.iload 11, 2) := by decide +kernel
theorem dL_isSo_366 : decode cL_isSo 366 = .ok (.if_icmp .ne 60, 3) := by decide +kernel
theorem dL_isSo_369 : decode cL_isSo 369 = .ok (.aload_n 0, 1) := by decide +kernel
theorem dL_isSo_370 : decode cL_isSo 370 = .ok (.iload 10, 2) := by decide +kernel
theorem dL_isSo_372 : decode cL_isSo 372 = .ok (.iconst 3, 1) := by decide +kernel
theorem dL_isSo_373 : decode cL_isSo 373 = .ok (.invokevirtual 119, 3) := by decide +kernel
theorem dL_isSo_376 : decode cL_isSo 376 = .ok (.aload 7, 2) := by decide +kernel
theorem dL_isSo_378 : decode cL_isSo 378 = .ok (.iconst 3, 1) := by decide +kernel
theorem dL_isSo_379 : decode cL_isSo 379 = .ok (.iload 10, 2) := by decide +kernel
theorem dL_isSo_381 : decode cL_isSo 381 = .ok (.imul, 1) := by decide +kernel
theorem dL_isSo_382 : decode cL_isSo 382 = .ok (.iconst 2, 1) := by decide +kernel
theorem dL_isSo_383 : decode cL_isSo 383 = .ok (.iadd, 1) := by decide +kernel
theorem dL_isSo_384 : decode cL_isSo 384 = .ok (.iaload, 1) := by decide +kernel
theorem dL_isSo_385 : decode cL_isSo 385 = .ok (.aload_n 1, 1) := by decide +kernel
theorem dL_isSo_386 : decode cL_isSo 386 = .ok (.iconst 4, 1) := by decide +kernel
theorem dL_isSo_387 : decode cL_isSo 387 = .ok (.iaload, 1) := by decide +kernel
theorem dL_isSo_388 : decode cL_isSo 388 = .ok (.if_icmp .le 19, 3) := by decide +kernel
theorem dL_isSo_391 : decode cL_isSo 391 = .ok (.aload 7, 2) := by decide +kernel
theorem dL_isSo_393 : decode cL_isSo 393 = .ok (.iconst 3, 1) := by decide +kernel
theorem dL_isSo_394 : decode cL_isSo 394 = .ok (.iload 10, 2) := by decide +kernel
theorem dL_isSo_396 : decode cL_isSo 396 = .ok (.imul, 1) := by decide +kernel
theorem dL_isSo_397 : decode cL_isSo 397 = .ok (.iconst 2, 1) := by decide +kernel
theorem dL_isSo_398 : decode cL_isSo 398 = .ok (.iadd, 1) := by decide +kernel
theorem dL_isSo_399 : decode cL_isSo 399 = .ok (.iaload, 1) := by decide +kernel
theorem dL_isSo_400 : decode cL_isSo 400 = .ok (.aload_n 1, 1) := by decide +kernel
theorem dL_isSo_401 : decode cL_isSo 401 = .ok (.iconst 4, 1) := by decide +kernel
theorem dL_isSo_402 : decode cL_isSo 402 = .ok (.iaload, 1) := by decide +kernel
theorem dL_isSo_403 : decode cL_isSo 403 = .ok (.isub, 1) := by decide +kernel
theorem dL_isSo_404 : decode cL_isSo 404 = .ok (.goto 4, 3) := by decide +kernel
theorem dL_isSo_407 : decode cL_isSo 407 = .ok (.iconst 0, 1) := by decide +kernel
theorem dL_isSo_408 : decode cL_isSo 408 = .ok (.if_icmp .ne 18, 3) := by decide +kernel
theorem dL_isSo_411 : decode cL_isSo 411 = .ok (.aload_n 0, 1) := by decide +kernel
theorem dL_isSo_412 : decode cL_isSo 412 = .ok (.iload 10, 2) := by decide +kernel
theorem dL_isSo_414 : decode cL_isSo 414 = .ok (.iconst 4, 1) := by decide +kernel
theorem dL_isSo_415 : decode cL_isSo 415 = .ok (.invokevirtual 119, 3) := by decide +kernel
theorem dL_isSo_418 : decode cL_isSo 418 = .ok (.iconst (-1), 1) := by decide +kernel
theorem dL_isSo_419 : decode cL_isSo 419 = .ok (.if_icmp .ne 7, 3) := by decide +kernel
theorem dL_isSo_422 : decode cL_isSo 422 = .ok (.iconst 1, 1) := by decide +kernel
theorem dL_isSo_423 : decode cL_isSo 423 = .ok (.goto 4, 3) := by decide +kernel
theorem dL_isSo_426 : decode cL_isSo 426 = .ok (.iconst 0, 1) := by decide +kernel
theorem dL_isSo_427 : decode cL_isSo 427 = .ok (.istore 8, 2) := by decide +kernel
theorem dL_isSo_429 : decode cL_isSo 429 = .ok (.iinc 10 1, 3) := by decide +kernel
theorem dL_isSo_432 : decode cL_isSo 432 = .ok (.goto (-180), 3) := by decide +kernel
theorem dL_isSo_435 : decode cL_isSo 435 = .ok (.iconst 0, 1) := by decide +kernel
theorem dL_isSo_436 : decode cL_isSo 436 = .ok (.istore 10, 2) := by decide +kernel
theorem dL_isSo_438 : decode cL_isSo 438 = .ok (.iload 10, 2) := by decide +kernel
theorem dL_isSo_440 : decode cL_isSo 440 = .ok (.iconst 5, 1) := by decide +kernel
theorem dL_isSo_441 : decode cL_isSo 441 = .ok (.if_icmp .ge 34, 3) := by decide +kernel
theorem dL_isSo_444 : decode cL_isSo 444 = .ok (.iload 8, 2) := by decide +kernel
theorem dL_isSo_446 : decode cL_isSo 446 = .ok (.ifCond .eq 29, 3) := by decide +kernel
theorem dL_isSo_449 : decode cL_isSo 449 = .ok (.aload_n 0, 1) := by decide +kernel
theorem dL_isSo_450 : decode cL_isSo 450 = .ok (.iload 10, 2) := by decide +kernel
theorem dL_isSo_452 : decode cL_isSo 452 = .ok (.invokevirtual 103, 3) := by decide +kernel
theorem dL_isSo_455 : decode cL_isSo 455 = .ok (.aload_n 1, 1) := by decide +kernel
theorem dL_isSo_456 : decode cL_isSo 456 = .ok (.iload 10, 2) := by decide +kernel
theorem dL_isSo_458 : decode cL_isSo 458 = .ok (.iaload, 1) := by decide +kernel
theorem dL_isSo_459 : decode cL_isSo 459 = .ok (.if_icmp .ne 7, 3) := by decide +kernel
theorem dL_isSo_462 : decode cL_isSo 462 = .ok (.iconst 1, 1) := by decide +kernel
theorem dL_isSo_463 : decode cL_isSo 463 = .ok (.goto 4, 3) := by decide +kernel
theorem dL_isSo_466 : decode cL_isSo 466 = .ok (.iconst 0, 1) := by decide +kernel
theorem dL_isSo_467 : decode cL_isSo 467 = .ok (.istore 8, 2) := by decide +kernel
theorem dL_isSo_469 : decode cL_isSo 469 = .ok (.iinc 10 1, 3) := by decide +kernel
theorem dL_isSo_472 : decode cL_isSo 472 = .ok (.goto (-34), 3) := by decide +kernel
theorem dL_isSo_475 : decode cL_isSo 475 = .ok (.iload 8, 2) := by decide +kernel
theorem dL_isSo_477 : decode cL_isSo 477 = .ok (.ifCond .eq 65, 3) := by decide +kernel
theorem dL_isSo_480 : decode cL_isSo 480 = .ok (.aload_n 0, 1) := by decide +kernel
theorem dL_isSo_481 : decode cL_isSo 481 = .ok (.bipush 10, 2) := by decide +kernel
theorem dL_isSo_483 : decode cL_isSo 483 = .ok (.invokevirtual 103, 3) := by decide +kernel
theorem dL_isSo_486 : decode cL_isSo 486 = .ok (.iload 9, 2) := by decide +kernel
theorem dL_isSo_488 : decode cL_isSo 488 = .ok (.if_icmp .ne 54, 3) := by decide +kernel
theorem dL_isSo_491 : decode cL_isSo 491 = .ok (.aload_n 0, 1) := by decide +kernel
theorem dL_isSo_492 : decode cL_isSo 492 = .ok (.bipush 14, 2) := by decide +kernel
theorem dL_isSo_494 : decode cL_isSo 494 = .ok (.invokevirtual 103, 3) := by decide +kernel
theorem dL_isSo_497 : decode cL_isSo 497 = .ok (.ifCond .ne 45, 3) := by decide +kernel
theorem dL_isSo_500 : decode cL_isSo 500 = .ok (.aload_n 0, 1) := by decide +kernel
theorem dL_isSo_501 : decode cL_isSo 501 = .ok (.bipush 20, 2) := by decide +kernel
theorem dL_isSo_503 : decode cL_isSo 503 = .ok (.invokevirtual 103, 3) := by decide +kernel
theorem dL_isSo_506 : decode cL_isSo 506 = .ok (.aload_n 1, 1) := by decide +kernel
theorem dL_isSo_507 : decode cL_isSo 507 = .ok (.iconst 5, 1) := by decide +kernel
theorem dL_isSo_508 : decode cL_isSo 508 = .ok (.iaload, 1) := by decide +kernel
theorem dL_isSo_509 : decode cL_isSo 509 = .ok (.if_icmp .ne 33, 3) := by decide +kernel
theorem dL_isSo_512 : decode cL_isSo 512 = .ok (.aload_n 0, 1) := by decide +kernel
theorem dL_isSo_513 : decode cL_isSo 513 = .ok (.bipush 21, 2) := by decide +kernel
theorem dL_isSo_515 : decode cL_isSo 515 = .ok (.invokevirtual 103, 3) := by decide +kernel
theorem dL_isSo_518 : decode cL_isSo 518 = .ok (.aload_n 1, 1) := by decide +kernel
theorem dL_isSo_519 : decode cL_isSo 519 = .ok (.bipush 6, 2) := by decide +kernel
theorem dL_isSo_521 : decode cL_isSo 521 = .ok (.iaload, 1) := by decide +kernel
theorem dL_isSo_522 : decode cL_isSo 522 = .ok (.if_icmp .ne 20, 3) := by decide +kernel
theorem dL_isSo_525 : decode cL_isSo 525 = .ok (.aload_n 0, 1) := by decide +kernel
theorem dL_isSo_526 : decode cL_isSo 526 = .ok (.bipush 22, 2) := by decide +kernel
theorem dL_isSo_528 : decode cL_isSo 528 = .ok (.invokevirtual 103, 3) := by decide +kernel
theorem dL_isSo_531 : decode cL_isSo 531 = .ok (.aload_n 1, 1) := by decide +kernel
theorem dL_isSo_532 : decode cL_isSo 532 = .ok (.bipush 7, 2) := by decide +kernel
theorem dL_isSo_534 : decode cL_isSo 534 = .ok (.iaload, 1) := by decide +kernel
theorem dL_isSo_535 : decode cL_isSo 535 = .ok (.if_icmp .ne 7, 3) := by decide +kernel
theorem dL_isSo_538 : decode cL_isSo 538 = .ok (.iconst 1, 1) := by decide +kernel
theorem dL_isSo_539 : decode cL_isSo 539 = .ok (.goto 4, 3) := by decide +kernel
theorem dL_isSo_542 : decode cL_isSo 542 = .ok (.iconst 0, 1) := by decide +kernel
theorem dL_isSo_543 : decode cL_isSo 543 = .ok (.ireturn, 1) := by decide +kernel
theorem dL_law_0 : decode cL_law 0 = .ok (.new 16, 3) := by decide +kernel
theorem dL_law_3 : decode cL_law 3 = .ok (.dup, 1) := by decide +kernel
theorem dL_law_4 : decode cL_law 4 = .ok (.invokespecial 122, 3) := by decide +kernel
theorem dL_law_7 : decode cL_law 7 = .ok (.astore_n 1, 1) := by decide +kernel
theorem dL_law_8 : decode cL_law 8 = .ok (.bipush 8, 2) := by decide +kernel
theorem dL_law_10 : decode cL_law 10 = .ok (.newarray .int, 2) := by decide +kernel
theorem dL_law_12 : decode cL_law 12 = .ok (.astore_n 2, 1) := by decide +kernel
theorem dL_law_13 : decode cL_law 13 = .ok (.bipush 24, 2) := by decide +kernel
theorem dL_law_15 : decode cL_law 15 = .ok (.newarray .int, 2) := by decide +kernel
theorem dL_law_17 : decode cL_law 17 = .ok (.astore_n 3, 1) := by decide +kernel
theorem dL_law_18 : decode cL_law 18 = .ok (.bipush 48, 2) := by decide +kernel
theorem dL_law_20 : decode cL_law 20 = .ok (.newarray .int, 2) := by decide +kernel
theorem dL_law_22 : decode cL_law 22 = .ok (.astore 4, 2) := by decide +kernel
theorem dL_law_24 : decode cL_law 24 = .ok (.bipush 48, 2) := by decide +kernel
theorem dL_law_26 : decode cL_law 26 = .ok (.newarray .int, 2) := by decide +kernel
theorem dL_law_28 : decode cL_law 28 = .ok (.astore 5, 2) := by decide +kernel
theorem dL_law_30 : decode cL_law 30 = .ok (.bipush 40, 2) := by decide +kernel
theorem dL_law_32 : decode cL_law 32 = .ok (.newarray .int, 2) := by decide +kernel
theorem dL_law_34 : decode cL_law 34 = .ok (.astore 6, 2) := by decide +kernel
theorem dL_law_36 : decode cL_law 36 = .ok (.bipush 32, 2) := by decide +kernel
theorem dL_law_38 : decode cL_law 38 = .ok (.newarray .int, 2) := by decide +kernel
theorem dL_law_40 : decode cL_law 40 = .ok (.astore 7, 2) := by decide +kernel
theorem dL_law_42 : decode cL_law 42 = .ok (.bipush 6, 2) := by decide +kernel
theorem dL_law_44 : decode cL_law 44 = .ok (.newarray .int, 2) := by decide +kernel
theorem dL_law_46 : decode cL_law 46 = .ok (.astore 8, 2) := by decide +kernel
theorem dL_law_48 : decode cL_law 48 = .ok (.aload_n 2, 1) := by decide +kernel
theorem dL_law_49 : decode cL_law 49 = .ok (.iconst 5, 1) := by decide +kernel
theorem dL_law_50 : decode cL_law 50 = .ok (.bipush 30, 2) := by decide +kernel
theorem dL_law_52 : decode cL_law 52 = .ok (.iastore, 1) := by decide +kernel
theorem dL_law_53 : decode cL_law 53 = .ok (.aload_n 2, 1) := by decide +kernel
theorem dL_law_54 : decode cL_law 54 = .ok (.bipush 6, 2) := by decide +kernel
theorem dL_law_56 : decode cL_law 56 = .ok (.bipush 60, 2) := by decide +kernel
theorem dL_law_58 : decode cL_law 58 = .ok (.iastore, 1) := by decide +kernel
theorem dL_law_59 : decode cL_law 59 = .ok (.aload_n 2, 1) := by decide +kernel
theorem dL_law_60 : decode cL_law 60 = .ok (.bipush 7, 2) := by decide +kernel
theorem dL_law_62 : decode cL_law 62 = .ok (.bipush 100, 2) := by decide +kernel
theorem dL_law_64 : decode cL_law 64 = .ok (.iastore, 1) := by decide +kernel
theorem dL_law_65 : decode cL_law 65 = .ok (.aload_n 1, 1) := by decide +kernel
theorem dL_law_66 : decode cL_law 66 = .ok (.aload_n 2, 1) := by decide +kernel
theorem dL_law_67 : decode cL_law 67 = .ok (.aload_n 3, 1) := by decide +kernel
theorem dL_law_68 : decode cL_law 68 = .ok (.aload 4, 2) := by decide +kernel
theorem dL_law_70 : decode cL_law 70 = .ok (.aload 5, 2) := by decide +kernel
theorem dL_law_72 : decode cL_law 72 = .ok (.aload 6, 2) := by decide +kernel
theorem dL_law_74 : decode cL_law 74 = .ok (.aload 7, 2) := by decide +kernel
theorem dL_law_76 : decode cL_law 76 = .ok (.aload 8, 2) := by decide +kernel
theorem dL_law_78 : decode cL_law 78 = .ok (.invokestatic 123, 3) := by decide +kernel
theorem dL_law_81 : decode cL_law 81 = .ok (.istore 9, 2) := by decide +kernel
theorem dL_law_83 : decode cL_law 83 = .ok (.iconst 0, 1) := by decide +kernel
theorem dL_law_84 : decode cL_law 84 = .ok (.istore 10, 2) := by decide +kernel
theorem dL_law_86 : decode cL_law 86 = .ok (.iload 10, 2) := by decide +kernel
theorem dL_law_88 : decode cL_law 88 = .ok (.bipush 9, 2) := by decide +kernel
theorem dL_law_90 : decode cL_law 90 = .ok (.if_icmp .ge 86, 3) := by decide +kernel
theorem dL_law_93 : decode cL_law 93 = .ok (.iload 9, 2) := by decide +kernel
theorem dL_law_95 : decode cL_law 95 = .ok (.ifCond .eq 81, 3) := by decide +kernel
theorem dL_law_98 : decode cL_law 98 = .ok (.aload_n 1, 1) := by decide +kernel
theorem dL_law_99 : decode cL_law 99 = .ok (.aload_n 2, 1) := by decide +kernel
theorem dL_law_100 : decode cL_law 100 = .ok (.aload_n 3, 1) := by decide +kernel
theorem dL_law_101 : decode cL_law 101 = .ok (.aload 4, 2) := by decide +kernel
theorem dL_law_103 : decode cL_law 103 = .ok (.aload 5, 2) := by decide +kernel
theorem dL_law_105 : decode cL_law 105 = .ok (.aload 6, 2) := by decide +kernel
theorem dL_law_107 : decode cL_law 107 = .ok (.aload 7, 2) := by decide +kernel
theorem dL_law_109 : decode cL_law 109 = .ok (.aload 8, 2) := by decide +kernel
theorem dL_law_111 : decode cL_law 111 = .ok (.aload_n 0, 1) := by decide +kernel
theorem dL_law_112 : decode cL_law 112 = .ok (.iconst 1, 1) := by decide +kernel
theorem dL_law_113 : decode cL_law 113 = .ok (.iload 10, 2) := by decide +kernel
theorem dL_law_115 : decode cL_law 115 = .ok (.iadd, 1) := by decide +kernel
theorem dL_law_116 : decode cL_law 116 = .ok (.invokestatic 127, 3) := by decide +kernel
theorem dL_law_119 : decode cL_law 119 = .ok (.ldc 8, 2) := by decide +kernel
theorem dL_law_121 : decode cL_law 121 = .ok (.iand, 1) := by decide +kernel
theorem dL_law_122 : decode cL_law 122 = .ok (.sipush 960, 3) := by decide +kernel
theorem dL_law_125 : decode cL_law 125 = .ok (.idiv, 1) := by decide +kernel
theorem dL_law_126 : decode cL_law 126 = .ok (.sipush 960, 3) := by decide +kernel
theorem dL_law_129 : decode cL_law 129 = .ok (.imul, 1) := by decide +kernel
theorem dL_law_130 : decode cL_law 130 = .ok (.iload 10, 2) := by decide +kernel
theorem dL_law_132 : decode cL_law 132 = .ok (.iconst 3, 1) := by decide +kernel
theorem dL_law_133 : decode cL_law 133 = .ok (.if_icmp .ge 7, 3) := by decide +kernel
theorem dL_law_136 : decode cL_law 136 = .ok (.iconst 0, 1) := by decide +kernel
theorem dL_law_137 : decode cL_law 137 = .ok (.goto 27, 3) := by decide +kernel
theorem dL_law_140 : decode cL_law 140 = .ok (.iload 10, 2) := by decide +kernel
theorem dL_law_142 : decode cL_law 142 = .ok (.bipush 6, 2) := by decide +kernel
theorem dL_law_144 : decode cL_law 144 = .ok (.if_icmp .ge 7, 3) := by decide +kernel
theorem dL_law_147 : decode cL_law 147 = .ok (.iconst 1, 1) := by decide +kernel
theorem dL_law_148 : decode cL_law 148 = .ok (.goto 16, 3) := by decide +kernel
theorem dL_law_151 : decode cL_law 151 = .ok (.iload 10, 2) := by decide +kernel
theorem dL_law_153 : decode cL_law 153 = .ok (.bipush 8, 2) := by decide +kernel
theorem dL_law_155 : decode cL_law 155 = .ok (.if_icmp .ge 7, 3) := by decide +kernel
theorem dL_law_158 : decode cL_law 158 = .ok (.iconst 5, 1) := by decide +kernel
theorem dL_law_159 : decode cL_law 159 = .ok (.goto 5, 3) := by decide +kernel
theorem dL_law_162 : decode cL_law 162 = .ok (.bipush 6, 2) := by decide +kernel
theorem dL_law_164 : decode cL_law 164 = .ok (.iadd, 1) := by decide +kernel
theorem dL_law_165 : decode cL_law 165 = .ok (.invokestatic 131, 3) := by decide +kernel
theorem dL_law_168 : decode cL_law 168 = .ok (.istore 9, 2) := by decide +kernel
theorem dL_law_170 : decode cL_law 170 = .ok (.iinc 10 1, 3) := by decide +kernel
theorem dL_law_173 : decode cL_law 173 = .ok (.goto (-87), 3) := by decide +kernel
theorem dL_law_176 : decode cL_law 176 = .ok (.bipush 14, 2) := by decide +kernel
theorem dL_law_178 : decode cL_law 178 = .ok (.aload_n 0, 1) := by decide +kernel
theorem dL_law_179 : decode cL_law 179 = .ok (.iconst 0, 1) := by decide +kernel
theorem dL_law_180 : decode cL_law 180 = .ok (.invokestatic 127, 3) := by decide +kernel
theorem dL_law_183 : decode cL_law 183 = .ok (.bipush 60, 2) := by decide +kernel
theorem dL_law_185 : decode cL_law 185 = .ok (.invokestatic 75, 3) := by decide +kernel
theorem dL_law_188 : decode cL_law 188 = .ok (.iadd, 1) := by decide +kernel
theorem dL_law_189 : decode cL_law 189 = .ok (.istore 10, 2) := by decide +kernel
theorem dL_law_191 : decode cL_law 191 = .ok (.iconst 0, 1) := by decide +kernel
theorem dL_law_192 : decode cL_law 192 = .ok (.istore 11, 2) := by decide +kernel
theorem dL_law_194 : decode cL_law 194 = .ok (.iload 11, 2) := by decide +kernel
theorem dL_law_196 : decode cL_law 196 = .ok (.iload 10, 2) := by decide +kernel
theorem dL_law_198 : decode cL_law 198 = .ok (.if_icmp .ge 75, 3) := by decide +kernel
theorem dL_law_201 : decode cL_law 201 = .ok (.iload 9, 2) := by decide +kernel
theorem dL_law_203 : decode cL_law 203 = .ok (.ifCond .eq 70, 3) := by decide +kernel
theorem dL_law_206 : decode cL_law 206 = .ok (.aload_n 1, 1) := by decide +kernel
theorem dL_law_207 : decode cL_law 207 = .ok (.aload_n 2, 1) := by decide +kernel
theorem dL_law_208 : decode cL_law 208 = .ok (.aload_n 3, 1) := by decide +kernel
theorem dL_law_209 : decode cL_law 209 = .ok (.aload 4, 2) := by decide +kernel
theorem dL_law_211 : decode cL_law 211 = .ok (.aload 5, 2) := by decide +kernel
theorem dL_law_213 : decode cL_law 213 = .ok (.aload 6, 2) := by decide +kernel
theorem dL_law_215 : decode cL_law 215 = .ok (.aload 7, 2) := by decide +kernel
theorem dL_law_217 : decode cL_law 217 = .ok (.aload 8, 2) := by decide +kernel
theorem dL_law_219 : decode cL_law 219 = .ok (.aload_n 0, 1) := by decide +kernel
theorem dL_law_220 : decode cL_law 220 = .ok (.bipush 10, 2) := by decide +kernel
theorem dL_law_222 : decode cL_law 222 = .ok (.iload 11, 2) := by decide +kernel
theorem dL_law_224 : decode cL_law 224 = .ok (.iadd, 1) := by decide +kernel
theorem dL_law_225 : decode cL_law 225 = .ok (.invokestatic 127, 3) := by decide +kernel
theorem dL_law_228 : decode cL_law 228 = .ok (.sipush 7919, 3) := by decide +kernel
theorem dL_law_231 : decode cL_law 231 = .ok (.iload 11, 2) := by decide +kernel
theorem dL_law_233 : decode cL_law 233 = .ok (.imul, 1) := by decide +kernel
theorem dL_law_234 : decode cL_law 234 = .ok (.ixor, 1) := by decide +kernel
theorem dL_law_235 : decode cL_law 235 = .ok (.invokestatic 131, 3) := by decide +kernel
theorem dL_law_238 : decode cL_law 238 = .ok (.ifCond .eq 26, 3) := by decide +kernel
theorem dL_law_241 : decode cL_law 241 = .ok (.aload_n 1, 1) := by decide +kernel
theorem dL_law_242 : decode cL_law 242 = .ok (.aload_n 2, 1) := by decide +kernel
theorem dL_law_243 : decode cL_law 243 = .ok (.aload_n 3, 1) := by decide +kernel
theorem dL_law_244 : decode cL_law 244 = .ok (.aload 4, 2) := by decide +kernel
theorem dL_law_246 : decode cL_law 246 = .ok (.aload 5, 2) := by decide +kernel
theorem dL_law_248 : decode cL_law 248 = .ok (.aload 6, 2) := by decide +kernel
theorem dL_law_250 : decode cL_law 250 = .ok (.aload 7, 2) := by decide +kernel
theorem dL_law_252 : decode cL_law 252 = .ok (.aload 8, 2) := by decide +kernel
theorem dL_law_254 : decode cL_law 254 = .ok (.invokestatic 123, 3) := by decide +kernel
theorem dL_law_257 : decode cL_law 257 = .ok (.ifCond .eq 7, 3) := by decide +kernel
theorem dL_law_260 : decode cL_law 260 = .ok (.iconst 1, 1) := by decide +kernel
theorem dL_law_261 : decode cL_law 261 = .ok (.goto 4, 3) := by decide +kernel
theorem dL_law_264 : decode cL_law 264 = .ok (.iconst 0, 1) := by decide +kernel
theorem dL_law_265 : decode cL_law 265 = .ok (.istore 9, 2) := by decide +kernel
theorem dL_law_267 : decode cL_law 267 = .ok (.iinc 11 1, 3) := by decide +kernel
theorem dL_law_270 : decode cL_law 270 = .ok (.goto (-76), 3) := by decide +kernel
theorem dL_law_273 : decode cL_law 273 = .ok (.iload 9, 2) := by decide +kernel
theorem dL_law_275 : decode cL_law 275 = .ok (.ifCond .eq 27, 3) := by decide +kernel
theorem dL_law_278 : decode cL_law 278 = .ok (.aload_n 1, 1) := by decide +kernel
theorem dL_law_279 : decode cL_law 279 = .ok (.bipush 16, 2) := by decide +kernel
theorem dL_law_281 : decode cL_law 281 = .ok (.invokevirtual 103, 3) := by decide +kernel
theorem dL_law_284 : decode cL_law 284 = .ok (.iconst (-1), 1) := by decide +kernel
theorem dL_law_285 : decode cL_law 285 = .ok (.if_icmp .ne 17, 3) := by decide +kernel
theorem dL_law_288 : decode cL_law 288 = .ok (.aload_n 1, 1) := by decide +kernel
theorem dL_law_289 : decode cL_law 289 = .ok (.bipush 23, 2) := by decide +kernel
theorem dL_law_291 : decode cL_law 291 = .ok (.invokevirtual 103, 3) := by decide +kernel
theorem dL_law_294 : decode cL_law 294 = .ok (.iconst (-1), 1) := by decide +kernel
theorem dL_law_295 : decode cL_law 295 = .ok (.if_icmp .ne 7, 3) := by decide +kernel
theorem dL_law_298 : decode cL_law 298 = .ok (.iconst 1, 1) := by decide +kernel
theorem dL_law_299 : decode cL_law 299 = .ok (.goto 4, 3) := by decide +kernel
theorem dL_law_302 : decode cL_law 302 = .ok (.iconst 0, 1) := by decide +kernel
theorem dL_law_303 : decode cL_law 303 = .ok (.ireturn, 1) := by decide +kernel
