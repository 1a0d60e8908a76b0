section Dec
theorem dX12_laysRoster_136 : decode cX12_laysRoster 136 = .ok (.istore 4, 2) := by decide +kernel
theorem dX12_laysRoster_138 : decode cX12_laysRoster 138 = .ok (.iload 5, 2) := by decide +kernel
theorem dX12_laysRoster_140 : decode cX12_laysRoster 140 = .ok (.iconst 1, 1) := by decide +kernel
theorem dX12_laysRoster_141 : decode cX12_laysRoster 141 = .ok (.isub, 1) := by decide +kernel
theorem dX12_laysRoster_142 : decode cX12_laysRoster 142 = .ok (.iload_n 3, 1) := by decide +kernel
theorem dX12_laysRoster_143 : decode cX12_laysRoster 143 = .ok (.iand, 1) := by decide +kernel
theorem dX12_laysRoster_144 : decode cX12_laysRoster 144 = .ok (.istore 5, 2) := by decide +kernel
theorem dX12_laysRoster_146 : decode cX12_laysRoster 146 = .ok (.goto (-57), 3) := by decide +kernel
theorem dX12_laysRoster_149 : decode cX12_laysRoster 149 = .ok (.aload_n 0, 1) := by decide +kernel
theorem dX12_laysRoster_150 : decode cX12_laysRoster 150 = .ok (.getfield 77, 3) := by decide +kernel
theorem dX12_laysRoster_153 : decode cX12_laysRoster 153 = .ok (.iload_n 2, 1) := by decide +kernel
theorem dX12_laysRoster_154 : decode cX12_laysRoster 154 = .ok (.bipush 6, 2) := by decide +kernel
theorem dX12_laysRoster_156 : decode cX12_laysRoster 156 = .ok (.ishl, 1) := by decide +kernel
theorem dX12_laysRoster_157 : decode cX12_laysRoster 157 = .ok (.iload_n 3, 1) := by decide +kernel
theorem dX12_laysRoster_158 : decode cX12_laysRoster 158 = .ok (.ior, 1) := by decide +kernel
theorem dX12_laysRoster_159 : decode cX12_laysRoster 159 = .ok (.iload 4, 2) := by decide +kernel
theorem dX12_laysRoster_161 : decode cX12_laysRoster 161 = .ok (.iastore, 1) := by decide +kernel
theorem dX12_laysRoster_162 : decode cX12_laysRoster 162 = .ok (.iinc 3 1, 3) := by decide +kernel
theorem dX12_laysRoster_165 : decode cX12_laysRoster 165 = .ok (.goto (-104), 3) := by decide +kernel
theorem dX12_laysRoster_168 : decode cX12_laysRoster 168 = .ok (.iinc 2 (-1), 3) := by decide +kernel
theorem dX12_laysRoster_171 : decode cX12_laysRoster 171 = .ok (.goto (-116), 3) := by decide +kernel
theorem dX12_laysRoster_174 : decode cX12_laysRoster 174 = .ok (.return_, 1) := by decide +kernel
theorem dX12_isSo_0 : decode cX12_isSo 0 = .ok (.iconst 0, 1) := by decide +kernel
theorem dX12_isSo_1 : decode cX12_isSo 1 = .ok (.istore_n 3, 1) := by decide +kernel
theorem dX12_isSo_2 : decode cX12_isSo 2 = .ok (.iload_n 3, 1) := by decide +kernel
theorem dX12_isSo_3 : decode cX12_isSo 3 = .ok (.iconst 1, 1) := by decide +kernel
theorem dX12_isSo_4 : decode cX12_isSo 4 = .ok (.aload_n 0, 1) := by decide +kernel
theorem dX12_isSo_5 : decode cX12_isSo 5 = .ok (.getfield 394, 3) := by decide +kernel
theorem dX12_isSo_8 : decode cX12_isSo 8 = .ok (.ishl, 1) := by decide +kernel
theorem dX12_isSo_9 : decode cX12_isSo 9 = .ok (.if_icmp .ge 34, 3) := by decide +kernel
theorem dX12_isSo_12 : decode cX12_isSo 12 = .ok (.aload_n 0, 1) := by decide +kernel
theorem dX12_isSo_13 : decode cX12_isSo 13 = .ok (.getfield 77, 3) := by decide +kernel
theorem dX12_isSo_16 : decode cX12_isSo 16 = .ok (.aload_n 0, 1) := by decide +kernel
theorem dX12_isSo_17 : decode cX12_isSo 17 = .ok (.getfield 154, 3) := by decide +kernel
theorem dX12_isSo_20 : decode cX12_isSo 20 = .ok (.bipush 6, 2) := by decide +kernel
theorem dX12_isSo_22 : decode cX12_isSo 22 = .ok (.ishl, 1) := by decide +kernel
theorem dX12_isSo_23 : decode cX12_isSo 23 = .ok (.iload_n 3, 1) := by decide +kernel
theorem dX12_isSo_24 : decode cX12_isSo 24 = .ok (.ior, 1) := by decide +kernel
theorem dX12_isSo_25 : decode cX12_isSo 25 = .ok (.iload_n 3, 1) := by decide +kernel
theorem dX12_isSo_26 : decode cX12_isSo 26 = .ok (.ifCond .ne 7, 3) := by decide +kernel
theorem dX12_isSo_29 : decode cX12_isSo 29 = .ok (.iconst 0, 1) := by decide +kernel
theorem dX12_isSo_30 : decode cX12_isSo 30 = .ok (.goto 6, 3) := by decide +kernel
theorem dX12_isSo_33 : decode cX12_isSo 33 = .ok (.ldc_w 397, 3) := by decide +kernel
theorem dX12_isSo_36 : decode cX12_isSo 36 = .ok (.iastore, 1) := by decide +kernel
theorem dX12_isSo_37 : decode cX12_isSo 37 = .ok (.iinc 3 1, 3) := by decide +kernel
theorem dX12_isSo_40 : decode cX12_isSo 40 = .ok (.goto (-38), 3) := by decide +kernel
theorem dX12_isSo_43 : decode cX12_isSo 43 = .ok (.aload_n 0, 1) := by decide +kernel
theorem dX12_isSo_44 : decode cX12_isSo 44 = .ok (.getfield 154, 3) := by decide +kernel
theorem dX12_isSo_47 : decode cX12_isSo 47 = .ok (.iconst 1, 1) := by decide +kernel
theorem dX12_isSo_48 : decode cX12_isSo 48 = .ok (.isub, 1) := by decide +kernel
theorem dX12_isSo_49 : decode cX12_isSo 49 = .ok (.istore_n 3, 1) := by decide +kernel
theorem dX12_isSo_50 : decode cX12_isSo 50 = .ok (.iload_n 3, 1) := by decide +kernel
theorem dX12_isSo_51 : decode cX12_isSo 51 = .ok (.ifCond .lt 227, 3) := by decide +kernel
theorem dX12_isSo_54 : decode cX12_isSo 54 = .ok (.iconst 0, 1) := by decide +kernel
theorem dX12_isSo_55 : decode cX12_isSo 55 = .ok (.istore 4, 2) := by decide +kernel
theorem dX12_isSo_57 : decode cX12_isSo 57 = .ok (.iload 4, 2) := by decide +kernel
theorem dX12_isSo_59 : decode cX12_isSo 59 = .ok (.iconst 1, 1) := by decide +kernel
theorem dX12_isSo_60 : decode cX12_isSo 60 = .ok (.aload_n 0, 1) := by decide +kernel
theorem dX12_isSo_61 : decode cX12_isSo 61 = .ok (.getfield 394, 3) := by decide +kernel
theorem dX12_isSo_64 : decode cX12_isSo 64 = .ok (.ishl, 1) := by decide +kernel
theorem dX12_isSo_65 : decode cX12_isSo 65 = .ok (.if_icmp .ge 207, 3) := by decide +kernel
theorem dX12_isSo_68 : decode cX12_isSo 68 = .ok (.ldc_w 397, 3) := by decide +kernel
theorem dX12_isSo_71 : decode cX12_isSo 71 = .ok (.istore 5, 2) := by decide +kernel
theorem dX12_isSo_73 : decode cX12_isSo 73 = .ok (.iload 4, 2) := by decide +kernel
theorem dX12_isSo_75 : decode cX12_isSo 75 = .ok (.istore 6, 2) := by decide +kernel
theorem dX12_isSo_77 : decode cX12_isSo 77 = .ok (.iload 6, 2) := by decide +kernel
theorem dX12_isSo_79 : decode cX12_isSo 79 = .ok (.ifCond .lt 173, 3) := by decide +kernel
theorem dX12_isSo_82 : decode cX12_isSo 82 = .ok (.iconst 1, 1) := by decide +kernel
theorem dX12_isSo_83 : decode cX12_isSo 83 = .ok (.istore 7, 2) := by decide +kernel
theorem dX12_isSo_85 : decode cX12_isSo 85 = .ok (.iconst 0, 1) := by decide +kernel
theorem dX12_isSo_86 : decode cX12_isSo 86 = .ok (.istore 8, 2) := by decide +kernel
theorem dX12_isSo_88 : decode cX12_isSo 88 = .ok (.iload 8, 2) := by decide +kernel
theorem dX12_isSo_90 : decode cX12_isSo 90 = .ok (.iload_n 1, 1) := by decide +kernel
theorem dX12_isSo_91 : decode cX12_isSo 91 = .ok (.if_icmp .ge 87, 3) := by decide +kernel
theorem dX12_isSo_94 : decode cX12_isSo 94 = .ok (.iload 7, 2) := by decide +kernel
theorem dX12_isSo_96 : decode cX12_isSo 96 = .ok (.ifCond .eq 73, 3) := by decide +kernel
theorem dX12_isSo_99 : decode cX12_isSo 99 = .ok (.iload 4, 2) := by decide +kernel
theorem dX12_isSo_101 : decode cX12_isSo 101 = .ok (.iload 8, 2) := by decide +kernel
theorem dX12_isSo_103 : decode cX12_isSo 103 = .ok (.ishr, 1) := by decide +kernel
theorem dX12_isSo_104 : decode cX12_isSo 104 = .ok (.iconst 1, 1) := by decide +kernel
theorem dX12_isSo_105 : decode cX12_isSo 105 = .ok (.iand, 1) := by decide +kernel
theorem dX12_isSo_106 : decode cX12_isSo 106 = .ok (.ifCond .eq 59, 3) := by decide +kernel
theorem dX12_isSo_109 : decode cX12_isSo 109 = .ok (.aload_n 0, 1) := by decide +kernel
theorem dX12_isSo_110 : decode cX12_isSo 110 = .ok (.getfield 80, 3) := by decide +kernel
theorem dX12_isSo_113 : decode cX12_isSo 113 = .ok (.iload 8, 2) := by decide +kernel
theorem dX12_isSo_115 : decode cX12_isSo 115 = .ok (.iaload, 1) := by decide +kernel
theorem dX12_isSo_116 : decode cX12_isSo 116 = .ok (.iload_n 3, 1) := by decide +kernel
theorem dX12_isSo_117 : decode cX12_isSo 117 = .ok (.if_icmp .ne 7, 3) := by decide +kernel
theorem dX12_isSo_120 : decode cX12_isSo 120 = .ok (.iconst 1, 1) := by decide +kernel
theorem dX12_isSo_121 : decode cX12_isSo 121 = .ok (.goto 4, 3) := by decide +kernel
theorem dX12_isSo_124 : decode cX12_isSo 124 = .ok (.iconst 0, 1) := by decide +kernel
theorem dX12_isSo_125 : decode cX12_isSo 125 = .ok (.iload 6, 2) := by decide +kernel
theorem dX12_isSo_127 : decode cX12_isSo 127 = .ok (.iload 8, 2) := by decide +kernel
theorem dX12_isSo_129 : decode cX12_isSo 129 = .ok (.ishr, 1) := by decide +kernel
theorem dX12_isSo_130 : decode cX12_isSo 130 = .ok (.iconst 1, 1) := by decide +kernel
theorem dX12_isSo_131 : decode cX12_isSo 131 = .ok (.iand, 1) := by decide +kernel
theorem dX12_isSo_132 : decode cX12_isSo 132 = .ok (.iconst 1, 1) := by decide +kernel
theorem dX12_isSo_133 : decode cX12_isSo 133 = .ok (.if_icmp .ne 7, 3) := by decide +kernel
theorem dX12_isSo_136 : decode cX12_isSo 136 = .ok (.iconst 1, 1) := by decide +kernel
theorem dX12_isSo_137 : decode cX12_isSo 137 = .ok (.goto 4, 3) := by decide +kernel
theorem dX12_isSo_140 : decode cX12_isSo 140 = .ok (.iconst 0, 1) := by decide +kernel
theorem dX12_isSo_141 : decode cX12_isSo 141 = .ok (.if_icmp .eq 24, 3) := by decide +kernel
theorem dX12_isSo_144 : decode cX12_isSo 144 = .ok (.iload 6, 2) := by decide +kernel
theorem dX12_isSo_146 : decode cX12_isSo 146 = .ok (.iload 8, 2) := by decide +kernel
theorem dX12_isSo_148 : decode cX12_isSo 148 = .ok (.ishr, 1) := by decide +kernel
theorem dX12_isSo_149 : decode cX12_isSo 149 = .ok (.iconst 1, 1) := by decide +kernel
theorem dX12_isSo_150 : decode cX12_isSo 150 = .ok (.iand, 1) := by decide +kernel
theorem dX12_isSo_151 : decode cX12_isSo 151 = .ok (.ifCond .ne 18, 3) := by decide +kernel
theorem dX12_isSo_154 : decode cX12_isSo 154 = .ok (.aload_n 0, 1) := by decide +kernel
theorem dX12_isSo_155 : decode cX12_isSo 155 = .ok (.getfield 80, 3) := by decide +kernel
theorem dX12_isSo_158 : decode cX12_isSo 158 = .ok (.iload 8, 2) := by decide +kernel
theorem dX12_isSo_160 : decode cX12_isSo 160 = .ok (.iaload, 1) := by decide +kernel
theorem dX12_isSo_161 : decode cX12_isSo 161 = .ok (.iload_n 3, 1) := by decide +kernel
theorem dX12_isSo_162 : decode cX12_isSo 162 = .ok (.if_icmp .le 7, 3) := by decide +kernel
theorem dX12_isSo_165 : decode cX12_isSo 165 = .ok (.iconst 1, 1) := by decide +kernel
theorem dX12_isSo_166 : decode cX12_isSo 166 = .ok (.goto 4, 3) := by decide +kernel
theorem dX12_isSo_169 : decode cX12_isSo 169 = .ok (.iconst 0, 1) := by decide +kernel
theorem dX12_isSo_170 : decode cX12_isSo 170 = .ok (.istore 7, 2) := by decide +kernel
theorem dX12_isSo_172 : decode cX12_isSo 172 = .ok (.iinc 8 1, 3) := by decide +kernel
theorem dX12_isSo_175 : decode cX12_isSo 175 = .ok (.goto (-87), 3) := by decide +kernel
theorem dX12_isSo_178 : decode cX12_isSo 178 = .ok (.iload 7, 2) := by decide +kernel
theorem dX12_isSo_180 : decode cX12_isSo 180 = .ok (.ifCond .ne 6, 3) := by decide +kernel
theorem dX12_isSo_183 : decode cX12_isSo 183 = .ok (.goto 48, 3) := by decide +kernel
theorem dX12_isSo_186 : decode cX12_isSo 186 = .ok (.aload_n 0, 1) := by decide +kernel
theorem dX12_isSo_187 : decode cX12_isSo 187 = .ok (.iload_n 3, 1) := by decide +kernel
theorem dX12_isSo_188 : decode cX12_isSo 188 = .ok (.iload 6, 2) := by decide +kernel
theorem dX12_isSo_190 : decode cX12_isSo 190 = .ok (.invokevirtual 401, 3) := by decide +kernel
theorem dX12_isSo_193 : decode cX12_isSo 193 = .ok (.aload_n 0, 1) := by decide +kernel
theorem dX12_isSo_194 : decode cX12_isSo 194 = .ok (.getfield 77, 3) := by decide +kernel
theorem dX12_isSo_197 : decode cX12_isSo 197 = .ok (.iload_n 3, 1) := by decide +kernel
theorem dX12_isSo_198 : decode cX12_isSo 198 = .ok (.iconst 1, 1) := by decide +kernel
theorem dX12_isSo_199 : decode cX12_isSo 199 = .ok (.iadd, 1) := by decide +kernel
theorem dX12_isSo_200 : decode cX12_isSo 200 = .ok (.bipush 6, 2) := by decide +kernel
theorem dX12_isSo_202 : decode cX12_isSo 202 = .ok (.ishl, 1) := by decide +kernel
theorem dX12_isSo_203 : decode cX12_isSo 203 = .ok (.iload 4, 2) := by decide +kernel
theorem dX12_isSo_205 : decode cX12_isSo 205 = .ok (.iload 6, 2) := by decide +kernel
theorem dX12_isSo_207 : decode cX12_isSo 207 = .ok (.iconst (-1), 1) := by decide +kernel
theorem dX12_isSo_208 : decode cX12_isSo 208 = .ok (.ixor, 1) := by decide +kernel
theorem dX12_isSo_209 : decode cX12_isSo 209 = .ok (.iand, 1) := by decide +kernel
theorem dX12_isSo_210 : decode cX12_isSo 210 = .ok (.ior, 1) := by decide +kernel
theorem dX12_isSo_211 : decode cX12_isSo 211 = .ok (.iaload, 1) := by decide +kernel
theorem dX12_isSo_212 : decode cX12_isSo 212 = .ok (.iadd, 1) := by decide +kernel
theorem dX12_isSo_213 : decode cX12_isSo 213 = .ok (.istore 8, 2) := by decide +kernel
theorem dX12_isSo_215 : decode cX12_isSo 215 = .ok (.iload 8, 2) := by decide +kernel
theorem dX12_isSo_217 : decode cX12_isSo 217 = .ok (.iload 5, 2) := by decide +kernel
theorem dX12_isSo_219 : decode cX12_isSo 219 = .ok (.if_icmp .ge 8, 3) := by decide +kernel
theorem dX12_isSo_222 : decode cX12_isSo 222 = .ok (.iload 8, 2) := by decide +kernel
theorem dX12_isSo_224 : decode cX12_isSo 224 = .ok (.goto 5, 3) := by decide +kernel
theorem dX12_isSo_227 : decode cX12_isSo 227 = .ok (.iload 5, 2) := by decide +kernel
theorem dX12_isSo_229 : decode cX12_isSo 229 = .ok (.istore 5, 2) := by decide +kernel
theorem dX12_isSo_231 : decode cX12_isSo 231 = .ok (.iload 6, 2) := by decide +kernel
theorem dX12_isSo_233 : decode cX12_isSo 233 = .ok (.ifCond .ne 7, 3) := by decide +kernel
theorem dX12_isSo_236 : decode cX12_isSo 236 = .ok (.iconst (-1), 1) := by decide +kernel
theorem dX12_isSo_237 : decode cX12_isSo 237 = .ok (.goto 10, 3) := by decide +kernel
theorem dX12_isSo_240 : decode cX12_isSo 240 = .ok (.iload 6, 2) := by decide +kernel
theorem dX12_isSo_242 : decode cX12_isSo 242 = .ok (.iconst 1, 1) := by decide +kernel
theorem dX12_isSo_243 : decode cX12_isSo 243 = .ok (.isub, 1) := by decide +kernel
theorem dX12_isSo_244 : decode cX12_isSo 244 = .ok (.iload 4, 2) := by decide +kernel
theorem dX12_isSo_246 : decode cX12_isSo 246 = .ok (.iand, 1) := by decide +kernel
theorem dX12_isSo_247 : decode cX12_isSo 247 = .ok (.istore 6, 2) := by decide +kernel
theorem dX12_isSo_249 : decode cX12_isSo 249 = .ok (.goto (-172), 3) := by decide +kernel
theorem dX12_isSo_252 : decode cX12_isSo 252 = .ok (.aload_n 0, 1) := by decide +kernel
theorem dX12_isSo_253 : decode cX12_isSo 253 = .ok (.getfield 77, 3) := by decide +kernel
theorem dX12_isSo_256 : decode cX12_isSo 256 = .ok (.iload_n 3, 1) := by decide +kernel
theorem dX12_isSo_257 : decode cX12_isSo 257 = .ok (.bipush 6, 2) := by decide +kernel
theorem dX12_isSo_259 : decode cX12_isSo 259 = .ok (.ishl, 1) := by decide +kernel
theorem dX12_isSo_260 : decode cX12_isSo 260 = .ok (.iload 4, 2) := by decide +kernel
theorem dX12_isSo_262 : decode cX12_isSo 262 = .ok (.ior, 1) := by decide +kernel
theorem dX12_isSo_263 : decode cX12_isSo 263 = .ok (.iload 5, 2) := by decide +kernel
theorem dX12_isSo_265 : decode cX12_isSo 265 = .ok (.iastore, 1) := by decide +kernel
theorem dX12_isSo_266 : decode cX12_isSo 266 = .ok (.iinc 4 1, 3) := by decide +kernel
theorem dX12_isSo_269 : decode cX12_isSo 269 = .ok (.goto (-212), 3) := by decide +kernel
theorem dX12_isSo_272 : decode cX12_isSo 272 = .ok (.iinc 3 (-1), 3) := by decide +kernel
theorem dX12_isSo_275 : decode cX12_isSo 275 = .ok (.goto (-225), 3) := by decide +kernel
theorem dX12_isSo_278 : decode cX12_isSo 278 = .ok (.aload_n 0, 1) := by decide +kernel
theorem dX12_isSo_279 : decode cX12_isSo 279 = .ok (.getfield 77, 3) := by decide +kernel
theorem dX12_isSo_282 : decode cX12_isSo 282 = .ok (.iconst 1, 1) := by decide +kernel
theorem dX12_isSo_283 : decode cX12_isSo 283 = .ok (.aload_n 0, 1) := by decide +kernel
theorem dX12_isSo_284 : decode cX12_isSo 284 = .ok (.getfield 394, 3) := by decide +kernel
theorem dX12_isSo_287 : decode cX12_isSo 287 = .ok (.ishl, 1) := by decide +kernel
theorem dX12_isSo_288 : decode cX12_isSo 288 = .ok (.iconst 1, 1) := by decide +kernel
theorem dX12_isSo_289 : decode cX12_isSo 289 = .ok (.isub, 1) := by decide +kernel
theorem dX12_isSo_290 : decode cX12_isSo 290 = .ok (.iaload, 1) := by decide +kernel
theorem dX12_isSo_291 : decode cX12_isSo 291 = .ok (.iload_n 2, 1) := by decide +kernel
theorem dX12_isSo_292 : decode cX12_isSo 292 = .ok (.if_icmp .ne 7, 3) := by decide +kernel
theorem dX12_isSo_295 : decode cX12_isSo 295 = .ok (.iconst 1, 1) := by decide +kernel
theorem dX12_isSo_296 : decode cX12_isSo 296 = .ok (.goto 4, 3) := by decide +kernel
theorem dX12_isSo_299 : decode cX12_isSo 299 = .ok (.iconst 0, 1) := by decide +kernel
theorem dX12_isSo_300 : decode cX12_isSo 300 = .ok (.ireturn, 1) := by decide +kernel
theorem dX12_isFewCouncils_0 : decode cX12_isFewCouncils 0 = .ok (.iload_n 1, 1) := by decide +kernel
theorem dX12_isFewCouncils_1 : decode cX12_isFewCouncils 1 = .ok (.ifCond .lt 26, 3) := by decide +kernel
theorem dX12_isFewCouncils_4 : decode cX12_isFewCouncils 4 = .ok (.iload_n 1, 1) := by decide +kernel
theorem dX12_isFewCouncils_5 : decode cX12_isFewCouncils 5 = .ok (.iconst 1, 1) := by decide +kernel
theorem dX12_isFewCouncils_6 : decode cX12_isFewCouncils 6 = .ok (.aload_n 0, 1) := by decide +kernel
theorem dX12_isFewCouncils_7 : decode cX12_isFewCouncils 7 = .ok (.getfield 157, 3) := by decide +kernel
theorem dX12_isFewCouncils_10 : decode cX12_isFewCouncils 10 = .ok (.ishl, 1) := by decide +kernel
theorem dX12_isFewCouncils_11 : decode cX12_isFewCouncils 11 = .ok (.if_icmp .ge 16, 3) := by decide +kernel
theorem dX12_isFewCouncils_14 : decode cX12_isFewCouncils 14 = .ok (.iload_n 1, 1) := by decide +kernel
theorem dX12_isFewCouncils_15 : decode cX12_isFewCouncils 15 = .ok (.invokestatic 338, 3) := by decide +kernel
theorem dX12_isFewCouncils_18 : decode cX12_isFewCouncils 18 = .ok (.bipush 6, 2) := by decide +kernel
theorem dX12_isFewCouncils_20 : decode cX12_isFewCouncils 20 = .ok (.if_icmp .gt 7, 3) := by decide +kernel
theorem dX12_isFewCouncils_23 : decode cX12_isFewCouncils 23 = .ok (.iconst 1, 1) := by decide +kernel
theorem dX12_isFewCouncils_24 : decode cX12_isFewCouncils 24 = .ok (.goto 4, 3) := by decide +kernel
theorem dX12_isFewCouncils_27 : decode cX12_isFewCouncils 27 = .ok (.iconst 0, 1) := by decide +kernel
theorem dX12_isFewCouncils_28 : decode cX12_isFewCouncils 28 = .ok (.ireturn, 1) := by decide +kernel
theorem dX12_roster_0 : decode cX12_roster 0 = .ok (.aload_n 0, 1) := by decide +kernel
theorem dX12_roster_1 : decode cX12_roster 1 = .ok (.iconst 0, 1) := by decide +kernel
theorem dX12_roster_2 : decode cX12_roster 2 = .ok (.putfield 3, 3) := by decide +kernel
theorem dX12_roster_5 : decode cX12_roster 5 = .ok (.aload_n 0, 1) := by decide +kernel
theorem dX12_roster_6 : decode cX12_roster 6 = .ok (.aload_n 0, 1) := by decide +kernel
theorem dX12_roster_7 : decode cX12_roster 7 = .ok (.iload_n 1, 1) := by decide +kernel
theorem dX12_roster_8 : decode cX12_roster 8 = .ok (.invokevirtual 404, 3) := by decide +kernel
theorem dX12_roster_11 : decode cX12_roster 11 = .ok (.iconst 1, 1) := by decide +kernel
theorem dX12_roster_12 : decode cX12_roster 12 = .ok (.iconst 1, 1) := by decide +kernel
theorem dX12_roster_13 : decode cX12_roster 13 = .ok (.invokevirtual 192, 3) := by decide +kernel
theorem dX12_roster_16 : decode cX12_roster 16 = .ok (.ifCond .ne 5, 3) := by decide +kernel
theorem dX12_roster_19 : decode cX12_roster 19 = .ok (.iconst 0, 1) := by decide +kernel
theorem dX12_roster_20 : decode cX12_roster 20 = .ok (.ireturn, 1) := by decide +kernel
theorem dX12_roster_21 : decode cX12_roster 21 = .ok (.aload_n 0, 1) := by decide +kernel
theorem dX12_roster_22 : decode cX12_roster 22 = .ok (.invokevirtual 310, 3) := by decide +kernel
theorem dX12_roster_25 : decode cX12_roster 25 = .ok (.aload_n 0, 1) := by decide +kernel
theorem dX12_roster_26 : decode cX12_roster 26 = .ok (.iload_n 1, 1) := by decide +kernel
theorem dX12_roster_27 : decode cX12_roster 27 = .ok (.invokevirtual 407, 3) := by decide +kernel
theorem dX12_roster_30 : decode cX12_roster 30 = .ok (.aload_n 0, 1) := by decide +kernel
theorem dX12_roster_31 : decode cX12_roster 31 = .ok (.getfield 77, 3) := by decide +kernel
theorem dX12_roster_34 : decode cX12_roster 34 = .ok (.iconst 1, 1) := by decide +kernel
theorem dX12_roster_35 : decode cX12_roster 35 = .ok (.aload_n 0, 1) := by decide +kernel
theorem dX12_roster_36 : decode cX12_roster 36 = .ok (.getfield 394, 3) := by decide +kernel
theorem dX12_roster_39 : decode cX12_roster 39 = .ok (.ishl, 1) := by decide +kernel
theorem dX12_roster_40 : decode cX12_roster 40 = .ok (.iconst 1, 1) := by decide +kernel
theorem dX12_roster_41 : decode cX12_roster 41 = .ok (.isub, 1) := by decide +kernel
theorem dX12_roster_42 : decode cX12_roster 42 = .ok (.iaload, 1) := by decide +kernel
theorem dX12_roster_43 : decode cX12_roster 43 = .ok (.istore_n 2, 1) := by decide +kernel
theorem dX12_roster_44 : decode cX12_roster 44 = .ok (.iload_n 2, 1) := by decide +kernel
theorem dX12_roster_45 : decode cX12_roster 45 = .ok (.ldc_w 397, 3) := by decide +kernel
theorem dX12_roster_48 : decode cX12_roster 48 = .ok (.if_icmp .lt 7, 3) := by decide +kernel
theorem dX12_roster_51 : decode cX12_roster 51 = .ok (.iconst (-1), 1) := by decide +kernel
theorem dX12_roster_52 : decode cX12_roster 52 = .ok (.goto 4, 3) := by decide +kernel
theorem dX12_roster_55 : decode cX12_roster 55 = .ok (.iload_n 2, 1) := by decide +kernel
theorem dX12_roster_56 : decode cX12_roster 56 = .ok (.ireturn, 1) := by decide +kernel
theorem dX12_gives_0 : decode cX12_gives 0 = .ok (.aload_n 0, 1) := by decide +kernel
theorem dX12_gives_1 : decode cX12_gives 1 = .ok (.iconst 0, 1) := by decide +kernel
theorem dX12_gives_2 : decode cX12_gives 2 = .ok (.putfield 3, 3) := by decide +kernel
theorem dX12_gives_5 : decode cX12_gives 5 = .ok (.aload_n 0, 1) := by decide +kernel
theorem dX12_gives_6 : decode cX12_gives 6 = .ok (.iload_n 1, 1) := by decide +kernel
theorem dX12_gives_7 : decode cX12_gives 7 = .ok (.iconst 1, 1) := by decide +kernel
theorem dX12_gives_8 : decode cX12_gives 8 = .ok (.invokevirtual 388, 3) := by decide +kernel
theorem dX12_gives_11 : decode cX12_gives 11 = .ok (.ifCond .eq 17, 3) := by decide +kernel
theorem dX12_gives_14 : decode cX12_gives 14 = .ok (.aload_n 0, 1) := by decide +kernel
theorem dX12_gives_15 : decode cX12_gives 15 = .ok (.aload_n 0, 1) := by decide +kernel
theorem dX12_gives_16 : decode cX12_gives 16 = .ok (.iload_n 2, 1) := by decide +kernel
theorem dX12_gives_17 : decode cX12_gives 17 = .ok (.invokevirtual 404, 3) := by decide +kernel
theorem dX12_gives_20 : decode cX12_gives 20 = .ok (.iconst 2, 1) := by decide +kernel
theorem dX12_gives_21 : decode cX12_gives 21 = .ok (.iconst 1, 1) := by decide +kernel
theorem dX12_gives_22 : decode cX12_gives 22 = .ok (.invokevirtual 192, 3) := by decide +kernel
theorem dX12_gives_25 : decode cX12_gives 25 = .ok (.ifCond .ne 5, 3) := by decide +kernel
theorem dX12_gives_28 : decode cX12_gives 28 = .ok (.iconst 0, 1) := by decide +kernel
theorem dX12_gives_29 : decode cX12_gives 29 = .ok (.ireturn, 1) := by decide +kernel
theorem dX12_gives_30 : decode cX12_gives 30 = .ok (.aload_n 0, 1) := by decide +kernel
theorem dX12_gives_31 : decode cX12_gives 31 = .ok (.invokevirtual 310, 3) := by decide +kernel
theorem dX12_gives_34 : decode cX12_gives 34 = .ok (.aload_n 0, 1) := by decide +kernel
theorem dX12_gives_35 : decode cX12_gives 35 = .ok (.iload_n 2, 1) := by decide +kernel
theorem dX12_gives_36 : decode cX12_gives 36 = .ok (.invokevirtual 407, 3) := by decide +kernel
theorem dX12_gives_39 : decode cX12_gives 39 = .ok (.aload_n 0, 1) := by decide +kernel
theorem dX12_gives_40 : decode cX12_gives 40 = .ok (.getfield 77, 3) := by decide +kernel
theorem dX12_gives_43 : decode cX12_gives 43 = .ok (.iconst 1, 1) := by decide +kernel
theorem dX12_gives_44 : decode cX12_gives 44 = .ok (.aload_n 0, 1) := by decide +kernel
theorem dX12_gives_45 : decode cX12_gives 45 = .ok (.getfield 394, 3) := by decide +kernel
theorem dX12_gives_48 : decode cX12_gives 48 = .ok (.ishl, 1) := by decide +kernel
theorem dX12_gives_49 : decode cX12_gives 49 = .ok (.iconst 1, 1) := by decide +kernel
theorem dX12_gives_50 : decode cX12_gives 50 = .ok (.isub, 1) := by decide +kernel
theorem dX12_gives_51 : decode cX12_gives 51 = .ok (.iaload, 1) := by decide +kernel
theorem dX12_gives_52 : decode cX12_gives 52 = .ok (.istore_n 3, 1) := by decide +kernel
theorem dX12_gives_53 : decode cX12_gives 53 = .ok (.iload_n 2, 1) := by decide +kernel
theorem dX12_gives_54 : decode cX12_gives 54 = .ok (.iload_n 1, 1) := by decide +kernel
theorem dX12_gives_55 : decode cX12_gives 55 = .ok (.ishr, 1) := by decide +kernel
theorem dX12_gives_56 : decode cX12_gives 56 = .ok (.iconst 1, 1) := by decide +kernel
theorem dX12_gives_57 : decode cX12_gives 57 = .ok (.iand, 1) := by decide +kernel
theorem dX12_gives_58 : decode cX12_gives 58 = .ok (.ifCond .eq 10, 3) := by decide +kernel
theorem dX12_gives_61 : decode cX12_gives 61 = .ok (.iload_n 3, 1) := by decide +kernel
theorem dX12_gives_62 : decode cX12_gives 62 = .ok (.ldc_w 397, 3) := by decide +kernel
theorem dX12_gives_65 : decode cX12_gives 65 = .ok (.if_icmp .lt 5, 3) := by decide +kernel
theorem dX12_gives_68 : decode cX12_gives 68 = .ok (.iconst (-1), 1) := by decide +kernel
theorem dX12_gives_69 : decode cX12_gives 69 = .ok (.ireturn, 1) := by decide +kernel
theorem dX12_gives_70 : decode cX12_gives 70 = .ok (.iconst 0, 1) := by decide +kernel
theorem dX12_gives_71 : decode cX12_gives 71 = .ok (.istore 4, 2) := by decide +kernel
theorem dX12_gives_73 : decode cX12_gives 73 = .ok (.aload_n 0, 1) := by decide +kernel
theorem dX12_gives_74 : decode cX12_gives 74 = .ok (.getfield 80, 3) := by decide +kernel
theorem dX12_gives_77 : decode cX12_gives 77 = .ok (.iload 4, 2) := by decide +kernel
theorem dX12_gives_79 : decode cX12_gives 79 = .ok (.iconst 0, 1) := by decide +kernel
theorem dX12_gives_80 : decode cX12_gives 80 = .ok (.iastore, 1) := by decide +kernel
theorem dX12_gives_81 : decode cX12_gives 81 = .ok (.aload_n 0, 1) := by decide +kernel
theorem dX12_gives_82 : decode cX12_gives 82 = .ok (.iload 4, 2) := by decide +kernel
theorem dX12_gives_84 : decode cX12_gives 84 = .ok (.iconst 1, 1) := by decide +kernel
theorem dX12_gives_85 : decode cX12_gives 85 = .ok (.iadd, 1) := by decide +kernel
theorem dX12_gives_86 : decode cX12_gives 86 = .ok (.iload_n 3, 1) := by decide +kernel
theorem dX12_gives_87 : decode cX12_gives 87 = .ok (.invokevirtual 410, 3) := by decide +kernel
theorem dX12_gives_90 : decode cX12_gives 90 = .ok (.ifCond .ne 17, 3) := by decide +kernel
theorem dX12_gives_93 : decode cX12_gives 93 = .ok (.aload_n 0, 1) := by decide +kernel
theorem dX12_gives_94 : decode cX12_gives 94 = .ok (.getfield 80, 3) := by decide +kernel
theorem dX12_gives_97 : decode cX12_gives 97 = .ok (.iload 4, 2) := by decide +kernel
theorem dX12_gives_99 : decode cX12_gives 99 = .ok (.dup2, 1) := by decide +kernel
theorem dX12_gives_100 : decode cX12_gives 100 = .ok (.iaload, 1) := by decide +kernel
theorem dX12_gives_101 : decode cX12_gives 101 = .ok (.iconst 1, 1) := by decide +kernel
theorem dX12_gives_102 : decode cX12_gives 102 = .ok (.iadd, 1) := by decide +kernel
theorem dX12_gives_103 : decode cX12_gives 103 = .ok (.iastore, 1) := by decide +kernel
theorem dX12_gives_104 : decode cX12_gives 104 = .ok (.goto (-23), 3) := by decide +kernel
theorem dX12_gives_107 : decode cX12_gives 107 = .ok (.aload_n 0, 1) := by decide +kernel
theorem dX12_gives_108 : decode cX12_gives 108 = .ok (.getfield 74, 3) := by decide +kernel
theorem dX12_gives_111 : decode cX12_gives 111 = .ok (.iload 4, 2) := by decide +kernel
theorem dX12_gives_113 : decode cX12_gives 113 = .ok (.iaload, 1) := by decide +kernel
theorem dX12_gives_114 : decode cX12_gives 114 = .ok (.iload_n 1, 1) := by decide +kernel
theorem dX12_gives_115 : decode cX12_gives 115 = .ok (.if_icmp .ne 11, 3) := by decide +kernel
theorem dX12_gives_118 : decode cX12_gives 118 = .ok (.aload_n 0, 1) := by decide +kernel
theorem dX12_gives_119 : decode cX12_gives 119 = .ok (.getfield 80, 3) := by decide +kernel
theorem dX12_gives_122 : decode cX12_gives 122 = .ok (.iload 4, 2) := by decide +kernel
theorem dX12_gives_124 : decode cX12_gives 124 = .ok (.iaload, 1) := by decide +kernel
theorem dX12_gives_125 : decode cX12_gives 125 = .ok (.ireturn, 1) := by decide +kernel
theorem dX12_gives_126 : decode cX12_gives 126 = .ok (.iinc 4 1, 3) := by decide +kernel
theorem dX12_gives_129 : decode cX12_gives 129 = .ok (.goto (-56), 3) := by decide +kernel
theorem dX12_word_0 : decode cX12_word 0 = .ok (.aload_n 0, 1) := by decide +kernel
theorem dX12_word_1 : decode cX12_word 1 = .ok (.iconst 0, 1) := by decide +kernel
theorem dX12_word_2 : decode cX12_word 2 = .ok (.putfield 3, 3) := by decide +kernel
theorem dX12_word_5 : decode cX12_word 5 = .ok (.aload_n 0, 1) := by decide +kernel
theorem dX12_word_6 : decode cX12_word 6 = .ok (.iload_n 1, 1) := by decide +kernel
theorem dX12_word_7 : decode cX12_word 7 = .ok (.iconst 1, 1) := by decide +kernel
theorem dX12_word_8 : decode cX12_word 8 = .ok (.invokevirtual 388, 3) := by decide +kernel
theorem dX12_word_11 : decode cX12_word 11 = .ok (.ifCond .ne 5, 3) := by decide +kernel
theorem dX12_word_14 : decode cX12_word 14 = .ok (.iconst 0, 1) := by decide +kernel
theorem dX12_word_15 : decode cX12_word 15 = .ok (.ireturn, 1) := by decide +kernel
theorem dX12_word_16 : decode cX12_word 16 = .ok (.aload_n 0, 1) := by decide +kernel
theorem dX12_word_17 : decode cX12_word 17 = .ok (.invokevirtual 310, 3) := by decide +kernel
theorem dX12_word_20 : decode cX12_word 20 = .ok (.iconst 0, 1) := by decide +kernel
theorem dX12_word_21 : decode cX12_word 21 = .ok (.istore_n 2, 1) := by decide +kernel
theorem dX12_word_22 : decode cX12_word 22 = .ok (.iconst 0, 1) := by decide +kernel
theorem dX12_word_23 : decode cX12_word 23 = .ok (.istore_n 3, 1) := by decide +kernel
theorem dX12_word_24 : decode cX12_word 24 = .ok (.iconst 0, 1) := by decide +kernel
theorem dX12_word_25 : decode cX12_word 25 = .ok (.istore 4, 2) := by decide +kernel
theorem dX12_word_27 : decode cX12_word 27 = .ok (.iload 4, 2) := by decide +kernel
theorem dX12_word_29 : decode cX12_word 29 = .ok (.aload_n 0, 1) := by decide +kernel
theorem dX12_word_30 : decode cX12_word 30 = .ok (.getfield 154, 3) := by decide +kernel
theorem dX12_word_33 : decode cX12_word 33 = .ok (.if_icmp .ge 46, 3) := by decide +kernel
theorem dX12_word_36 : decode cX12_word 36 = .ok (.aload_n 0, 1) := by decide +kernel
theorem dX12_word_37 : decode cX12_word 37 = .ok (.getfield 62, 3) := by decide +kernel
theorem dX12_word_40 : decode cX12_word 40 = .ok (.bipush 91, 2) := by decide +kernel
theorem dX12_word_42 : decode cX12_word 42 = .ok (.iload 4, 2) := by decide +kernel
theorem dX12_word_44 : decode cX12_word 44 = .ok (.iadd, 1) := by decide +kernel
theorem dX12_word_45 : decode cX12_word 45 = .ok (.iaload, 1) := by decide +kernel
theorem dX12_word_46 : decode cX12_word 46 = .ok (.iconst 1, 1) := by decide +kernel
theorem dX12_word_47 : decode cX12_word 47 = .ok (.if_icmp .ne 6, 3) := by decide +kernel
theorem dX12_word_50 : decode cX12_word 50 = .ok (.goto 23, 3) := by decide +kernel
theorem dX12_word_53 : decode cX12_word 53 = .ok (.aload_n 0, 1) := by decide +kernel
theorem dX12_word_54 : decode cX12_word 54 = .ok (.iload 4, 2) := by decide +kernel
theorem dX12_word_56 : decode cX12_word 56 = .ok (.iload_n 1, 1) := by decide +kernel
theorem dX12_word_57 : decode cX12_word 57 = .ok (.invokevirtual 329, 3) := by decide +kernel
theorem dX12_word_60 : decode cX12_word 60 = .ok (.iconst (-1), 1) := by decide +kernel
theorem dX12_word_61 : decode cX12_word 61 = .ok (.if_icmp .eq 9, 3) := by decide +kernel
theorem dX12_word_64 : decode cX12_word 64 = .ok (.iinc 2 1, 3) := by decide +kernel
theorem dX12_word_67 : decode cX12_word 67 = .ok (.goto 6, 3) := by decide +kernel
theorem dX12_word_70 : decode cX12_word 70 = .ok (.iinc 3 1, 3) := by decide +kernel
theorem dX12_word_73 : decode cX12_word 73 = .ok (.iinc 4 1, 3) := by decide +kernel
theorem dX12_word_76 : decode cX12_word 76 = .ok (.goto (-49), 3) := by decide +kernel
theorem dX12_word_79 : decode cX12_word 79 = .ok (.iload_n 2, 1) := by decide +kernel
theorem dX12_word_80 : decode cX12_word 80 = .ok (.ifCond .ne 11, 3) := by decide +kernel
theorem dX12_word_83 : decode cX12_word 83 = .ok (.iload_n 3, 1) := by decide +kernel
theorem dX12_word_84 : decode cX12_word 84 = .ok (.ifCond .le 7, 3) := by decide +kernel
theorem dX12_word_87 : decode cX12_word 87 = .ok (.iconst (-1), 1) := by decide +kernel
theorem dX12_word_88 : decode cX12_word 88 = .ok (.goto 4, 3) := by decide +kernel
theorem dX12_word_91 : decode cX12_word 91 = .ok (.iload_n 3, 1) := by decide +kernel
theorem dX12_word_92 : decode cX12_word 92 = .ok (.ireturn, 1) := by decide +kernel
theorem dX12_ease_0 : decode cX12_ease 0 = .ok (.aload_n 0, 1) := by decide +kernel
theorem dX12_ease_1 : decode cX12_ease 1 = .ok (.iconst 0, 1) := by decide +kernel
theorem dX12_ease_2 : decode cX12_ease 2 = .ok (.putfield 3, 3) := by decide +kernel
theorem dX12_ease_5 : decode cX12_ease 5 = .ok (.aload_n 0, 1) := by decide +kernel
theorem dX12_ease_6 : decode cX12_ease 6 = .ok (.iload_n 1, 1) := by decide +kernel
theorem dX12_ease_7 : decode cX12_ease 7 = .ok (.ifCond .lt 28, 3) := by decide +kernel
theorem dX12_ease_10 : decode cX12_ease 10 = .ok (.iload_n 1, 1) := by decide +kernel
theorem dX12_ease_11 : decode cX12_ease 11 = .ok (.iconst 1, 1) := by decide +kernel
theorem dX12_ease_12 : decode cX12_ease 12 = .ok (.aload_n 0, 1) := by decide +kernel
theorem dX12_ease_13 : decode cX12_ease 13 = .ok (.getfield 157, 3) := by decide +kernel
theorem dX12_ease_16 : decode cX12_ease 16 = .ok (.ishl, 1) := by decide +kernel
theorem dX12_ease_17 : decode cX12_ease 17 = .ok (.if_icmp .ge 18, 3) := by decide +kernel
theorem dX12_ease_20 : decode cX12_ease 20 = .ok (.iload_n 2, 1) := by decide +kernel
theorem dX12_ease_21 : decode cX12_ease 21 = .ok (.iconst 0, 1) := by decide +kernel
theorem dX12_ease_22 : decode cX12_ease 22 = .ok (.sipush 9999, 3) := by decide +kernel
theorem dX12_ease_25 : decode cX12_ease 25 = .ok (.invokestatic 373, 3) := by decide +kernel
theorem dX12_ease_28 : decode cX12_ease 28 = .ok (.ifCond .eq 7, 3) := by decide +kernel
theorem dX12_ease_31 : decode cX12_ease 31 = .ok (.iconst 1, 1) := by decide +kernel
theorem dX12_ease_32 : decode cX12_ease 32 = .ok (.goto 4, 3) := by decide +kernel
theorem dX12_ease_35 : decode cX12_ease 35 = .ok (.iconst 0, 1) := by decide +kernel
theorem dX12_ease_36 : decode cX12_ease 36 = .ok (.iconst 1, 1) := by decide +kernel
theorem dX12_ease_37 : decode cX12_ease 37 = .ok (.iconst 1, 1) := by decide +kernel
theorem dX12_ease_38 : decode cX12_ease 38 = .ok (.invokevirtual 192, 3) := by decide +kernel
theorem dX12_ease_41 : decode cX12_ease 41 = .ok (.ifCond .ne 5, 3) := by decide +kernel
theorem dX12_ease_44 : decode cX12_ease 44 = .ok (.iconst 0, 1) := by decide +kernel
theorem dX12_ease_45 : decode cX12_ease 45 = .ok (.ireturn, 1) := by decide +kernel
theorem dX12_ease_46 : decode cX12_ease 46 = .ok (.iconst 0, 1) := by decide +kernel
theorem dX12_ease_47 : decode cX12_ease 47 = .ok (.istore_n 3, 1) := by decide +kernel
theorem dX12_ease_48 : decode cX12_ease 48 = .ok (.iconst 0, 1) := by decide +kernel
theorem dX12_ease_49 : decode cX12_ease 49 = .ok (.istore 4, 2) := by decide +kernel
theorem dX12_ease_51 : decode cX12_ease 51 = .ok (.iload 4, 2) := by decide +kernel
theorem dX12_ease_53 : decode cX12_ease 53 = .ok (.aload_n 0, 1) := by decide +kernel
theorem dX12_ease_54 : decode cX12_ease 54 = .ok (.getfield 157, 3) := by decide +kernel
theorem dX12_ease_57 : decode cX12_ease 57 = .ok (.if_icmp .ge 46, 3) := by decide +kernel
theorem dX12_ease_60 : decode cX12_ease 60 = .ok (.iload_n 1, 1) := by decide +kernel
theorem dX12_ease_61 : decode cX12_ease 61 = .ok (.iload 4, 2) := by decide +kernel
theorem dX12_ease_63 : decode cX12_ease 63 = .ok (.ishr, 1) := by decide +kernel
theorem dX12_ease_64 : decode cX12_ease 64 = .ok (.iconst 1, 1) := by decide +kernel
theorem dX12_ease_65 : decode cX12_ease 65 = .ok (.iand, 1) := by decide +kernel
theorem dX12_ease_66 : decode cX12_ease 66 = .ok (.iconst 1, 1) := by decide +kernel
theorem dX12_ease_67 : decode cX12_ease 67 = .ok (.if_icmp .ne 30, 3) := by decide +kernel
theorem dX12_ease_70 : decode cX12_ease 70 = .ok (.aload_n 0, 1) := by decide +kernel
theorem dX12_ease_71 : decode cX12_ease 71 = .ok (.getfield 32, 3) := by decide +kernel
theorem dX12_ease_74 : decode cX12_ease 74 = .ok (.iconst 2, 1) := by decide +kernel
theorem dX12_ease_75 : decode cX12_ease 75 = .ok (.iload 4, 2) := by decide +kernel
theorem dX12_ease_77 : decode cX12_ease 77 = .ok (.imul, 1) := by decide +kernel
theorem dX12_ease_78 : decode cX12_ease 78 = .ok (.iconst 1, 1) := by decide +kernel
theorem dX12_ease_79 : decode cX12_ease 79 = .ok (.iadd, 1) := by decide +kernel
theorem dX12_ease_80 : decode cX12_ease 80 = .ok (.iaload, 1) := by decide +kernel
theorem dX12_ease_81 : decode cX12_ease 81 = .ok (.iload_n 3, 1) := by decide +kernel
theorem dX12_ease_82 : decode cX12_ease 82 = .ok (.if_icmp .le 15, 3) := by decide +kernel
theorem dX12_ease_85 : decode cX12_ease 85 = .ok (.aload_n 0, 1) := by decide +kernel
theorem dX12_ease_86 : decode cX12_ease 86 = .ok (.getfield 32, 3) := by decide +kernel
theorem dX12_ease_89 : decode cX12_ease 89 = .ok (.iconst 2, 1) := by decide +kernel
theorem dX12_ease_90 : decode cX12_ease 90 = .ok (.iload 4, 2) := by decide +kernel
theorem dX12_ease_92 : decode cX12_ease 92 = .ok (.imul, 1) := by decide +kernel
theorem dX12_ease_93 : decode cX12_ease 93 = .ok (.iconst 1, 1) := by decide +kernel
theorem dX12_ease_94 : decode cX12_ease 94 = .ok (.iadd, 1) := by decide +kernel
theorem dX12_ease_95 : decode cX12_ease 95 = .ok (.iaload, 1) := by decide +kernel
theorem dX12_ease_96 : decode cX12_ease 96 = .ok (.istore_n 3, 1) := by decide +kernel
theorem dX12_ease_97 : decode cX12_ease 97 = .ok (.iinc 4 1, 3) := by decide +kernel
theorem dX12_ease_100 : decode cX12_ease 100 = .ok (.goto (-49), 3) := by decide +kernel
theorem dX12_ease_103 : decode cX12_ease 103 = .ok (.aload_n 0, 1) := by decide +kernel
theorem dX12_ease_104 : decode cX12_ease 104 = .ok (.iload_n 1, 1) := by decide +kernel
theorem dX12_ease_105 : decode cX12_ease 105 = .ok (.iload_n 3, 1) := by decide +kernel
theorem dX12_ease_106 : decode cX12_ease 106 = .ok (.invokevirtual 413, 3) := by decide +kernel
theorem dX12_ease_109 : decode cX12_ease 109 = .ok (.iload_n 2, 1) := by decide +kernel
theorem dX12_ease_110 : decode cX12_ease 110 = .ok (.if_icmp .le 9, 3) := by decide +kernel
theorem dX12_ease_113 : decode cX12_ease 113 = .ok (.iinc 3 1, 3) := by decide +kernel
theorem dX12_ease_116 : decode cX12_ease 116 = .ok (.goto (-13), 3) := by decide +kernel
theorem dX12_ease_119 : decode cX12_ease 119 = .ok (.iload_n 1, 1) := by decide +kernel
theorem dX12_ease_120 : decode cX12_ease 120 = .ok (.ifCond .ne 7, 3) := by decide +kernel
theorem dX12_ease_123 : decode cX12_ease 123 = .ok (.iconst 0, 1) := by decide +kernel
theorem dX12_ease_124 : decode cX12_ease 124 = .ok (.goto 4, 3) := by decide +kernel
theorem dX12_ease_127 : decode cX12_ease 127 = .ok (.iload_n 3, 1) := by decide +kernel
theorem dX12_ease_128 : decode cX12_ease 128 = .ok (.ireturn, 1) := by decide +kernel
theorem dX12_hoursAbove_0 : decode cX12_hoursAbove 0 = .ok (.iconst 0, 1) := by decide +kernel
theorem dX12_hoursAbove_1 : decode cX12_hoursAbove 1 = .ok (.istore_n 3, 1) := by decide +kernel
theorem dX12_hoursAbove_2 : decode cX12_hoursAbove 2 = .ok (.iconst 0, 1) := by decide +kernel
theorem dX12_hoursAbove_3 : decode cX12_hoursAbove 3 = .ok (.istore 4, 2) := by decide +kernel
theorem dX12_hoursAbove_5 : decode cX12_hoursAbove 5 = .ok (.iload 4, 2) := by decide +kernel
theorem dX12_hoursAbove_7 : decode cX12_hoursAbove 7 = .ok (.aload_n 0, 1) := by decide +kernel
theorem dX12_hoursAbove_8 : decode cX12_hoursAbove 8 = .ok (.getfield 157, 3) := by decide +kernel
theorem dX12_hoursAbove_11 : decode cX12_hoursAbove 11 = .ok (.if_icmp .ge 63, 3) := by decide +kernel
theorem dX12_hoursAbove_14 : decode cX12_hoursAbove 14 = .ok (.aload_n 0, 1) := by decide +kernel
theorem dX12_hoursAbove_15 : decode cX12_hoursAbove 15 = .ok (.getfield 160, 3) := by decide +kernel
theorem dX12_hoursAbove_18 : decode cX12_hoursAbove 18 = .ok (.aload_n 0, 1) := by decide +kernel
theorem dX12_hoursAbove_19 : decode cX12_hoursAbove 19 = .ok (.getfield 32, 3) := by decide +kernel
theorem dX12_hoursAbove_22 : decode cX12_hoursAbove 22 = .ok (.iconst 2, 1) := by decide +kernel
theorem dX12_hoursAbove_23 : decode cX12_hoursAbove 23 = .ok (.iload 4, 2) := by decide +kernel
theorem dX12_hoursAbove_25 : decode cX12_hoursAbove 25 = .ok (.imul, 1) := by decide +kernel
theorem dX12_hoursAbove_26 : decode cX12_hoursAbove 26 = .ok (.iconst 1, 1) := by decide +kernel
theorem dX12_hoursAbove_27 : decode cX12_hoursAbove 27 = .ok (.iadd, 1) := by decide +kernel
theorem dX12_hoursAbove_28 : decode cX12_hoursAbove 28 = .ok (.iaload, 1) := by decide +kernel
theorem dX12_hoursAbove_29 : decode cX12_hoursAbove 29 = .ok (.iadd, 1) := by decide +kernel
theorem dX12_hoursAbove_30 : decode cX12_hoursAbove 30 = .ok (.iload_n 2, 1) := by decide +kernel
theorem dX12_hoursAbove_31 : decode cX12_hoursAbove 31 = .ok (.isub, 1) := by decide +kernel
theorem dX12_hoursAbove_32 : decode cX12_hoursAbove 32 = .ok (.istore 5, 2) := by decide +kernel
theorem dX12_hoursAbove_34 : decode cX12_hoursAbove 34 = .ok (.iload_n 3, 1) := by decide +kernel
theorem dX12_hoursAbove_35 : decode cX12_hoursAbove 35 = .ok (.iload_n 1, 1) := by decide +kernel
theorem dX12_hoursAbove_36 : decode cX12_hoursAbove 36 = .ok (.iload 4, 2) := by decide +kernel
theorem dX12_hoursAbove_38 : decode cX12_hoursAbove 38 = .ok (.ishr, 1) := by decide +kernel
theorem dX12_hoursAbove_39 : decode cX12_hoursAbove 39 = .ok (.iconst 1, 1) := by decide +kernel
theorem dX12_hoursAbove_40 : decode cX12_hoursAbove 40 = .ok (.iand, 1) := by decide +kernel
theorem dX12_hoursAbove_41 : decode cX12_hoursAbove 41 = .ok (.iconst 1, 1) := by decide +kernel
theorem dX12_hoursAbove_42 : decode cX12_hoursAbove 42 = .ok (.if_icmp .ne 23, 3) := by decide +kernel
theorem dX12_hoursAbove_45 : decode cX12_hoursAbove 45 = .ok (.iload 5, 2) := by decide +kernel
theorem dX12_hoursAbove_47 : decode cX12_hoursAbove 47 = .ok (.ifCond .le 18, 3) := by decide +kernel
theorem dX12_hoursAbove_50 : decode cX12_hoursAbove 50 = .ok (.iload 5, 2) := by decide +kernel
theorem dX12_hoursAbove_52 : decode cX12_hoursAbove 52 = .ok (.aload_n 0, 1) := by decide +kernel
theorem dX12_hoursAbove_53 : decode cX12_hoursAbove 53 = .ok (.getfield 32, 3) := by decide +kernel
theorem dX12_hoursAbove_56 : decode cX12_hoursAbove 56 = .ok (.iconst 2, 1) := by decide +kernel
theorem dX12_hoursAbove_57 : decode cX12_hoursAbove 57 = .ok (.iload 4, 2) := by decide +kernel
theorem dX12_hoursAbove_59 : decode cX12_hoursAbove 59 = .ok (.imul, 1) := by decide +kernel
theorem dX12_hoursAbove_60 : decode cX12_hoursAbove 60 = .ok (.iaload, 1) := by decide +kernel
theorem dX12_hoursAbove_61 : decode cX12_hoursAbove 61 = .ok (.imul, 1) := by decide +kernel
theorem dX12_hoursAbove_62 : decode cX12_hoursAbove 62 = .ok (.goto 4, 3) := by decide +kernel
theorem dX12_hoursAbove_65 : decode cX12_hoursAbove 65 = .ok (.iconst 0, 1) := by decide +kernel
theorem dX12_hoursAbove_66 : decode cX12_hoursAbove 66 = .ok (.iadd, 1) := by decide +kernel
theorem dX12_hoursAbove_67 : decode cX12_hoursAbove 67 = .ok (.istore_n 3, 1) := by decide +kernel
theorem dX12_hoursAbove_68 : decode cX12_hoursAbove 68 = .ok (.iinc 4 1, 3) := by decide +kernel
theorem dX12_hoursAbove_71 : decode cX12_hoursAbove 71 = .ok (.goto (-66), 3) := by decide +kernel
theorem dX12_hoursAbove_74 : decode cX12_hoursAbove 74 = .ok (.iload_n 3, 1) := by decide +kernel
theorem dX12_hoursAbove_75 : decode cX12_hoursAbove 75 = .ok (.ireturn, 1) := by decide +kernel
theorem dX12_tiredThen_0 : decode cX12_tiredThen 0 = .ok (.aload_n 0, 1) := by decide +kernel
theorem dX12_tiredThen_1 : decode cX12_tiredThen 1 = .ok (.getfield 62, 3) := by decide +kernel
theorem dX12_tiredThen_4 : decode cX12_tiredThen 4 = .ok (.bipush 84, 2) := by decide +kernel
theorem dX12_tiredThen_6 : decode cX12_tiredThen 6 = .ok (.iload_n 1, 1) := by decide +kernel
theorem dX12_tiredThen_7 : decode cX12_tiredThen 7 = .ok (.iadd, 1) := by decide +kernel
theorem dX12_tiredThen_8 : decode cX12_tiredThen 8 = .ok (.iaload, 1) := by decide +kernel
theorem dX12_tiredThen_9 : decode cX12_tiredThen 9 = .ok (.iload_n 1, 1) := by decide +kernel
theorem dX12_tiredThen_10 : decode cX12_tiredThen 10 = .ok (.iload_n 2, 1) := by decide +kernel
theorem dX12_tiredThen_11 : decode cX12_tiredThen 11 = .ok (.if_icmp .ne 24, 3) := by decide +kernel
theorem dX12_tiredThen_14 : decode cX12_tiredThen 14 = .ok (.aload_n 0, 1) := by decide +kernel
theorem dX12_tiredThen_15 : decode cX12_tiredThen 15 = .ok (.getfield 62, 3) := by decide +kernel
theorem dX12_tiredThen_18 : decode cX12_tiredThen 18 = .ok (.bipush 91, 2) := by decide +kernel
theorem dX12_tiredThen_20 : decode cX12_tiredThen 20 = .ok (.iload_n 2, 1) := by decide +kernel
theorem dX12_tiredThen_21 : decode cX12_tiredThen 21 = .ok (.iadd, 1) := by decide +kernel
theorem dX12_tiredThen_22 : decode cX12_tiredThen 22 = .ok (.iaload, 1) := by decide +kernel
theorem dX12_tiredThen_23 : decode cX12_tiredThen 23 = .ok (.ifCond .ne 12, 3) := by decide +kernel
theorem dX12_tiredThen_26 : decode cX12_tiredThen 26 = .ok (.aload_n 0, 1) := by decide +kernel
theorem dX12_tiredThen_27 : decode cX12_tiredThen 27 = .ok (.iload_n 2, 1) := by decide +kernel
theorem dX12_tiredThen_28 : decode cX12_tiredThen 28 = .ok (.iload_n 3, 1) := by decide +kernel
theorem dX12_tiredThen_29 : decode cX12_tiredThen 29 = .ok (.invokevirtual 348, 3) := by decide +kernel
theorem dX12_tiredThen_32 : decode cX12_tiredThen 32 = .ok (.goto 4, 3) := by decide +kernel
theorem dX12_tiredThen_35 : decode cX12_tiredThen 35 = .ok (.iconst 0, 1) := by decide +kernel
theorem dX12_tiredThen_36 : decode cX12_tiredThen 36 = .ok (.iadd, 1) := by decide +kernel
theorem dX12_tiredThen_37 : decode cX12_tiredThen 37 = .ok (.ireturn, 1) := by decide +kernel
theorem dX12_isFit_0 : decode cX12_isFit 0 = .ok (.iconst 1, 1) := by decide +kernel
theorem dX12_isFit_1 : decode cX12_isFit 1 = .ok (.istore_n 3, 1) := by decide +kernel
theorem dX12_isFit_2 : decode cX12_isFit 2 = .ok (.iconst 0, 1) := by decide +kernel
theorem dX12_isFit_3 : decode cX12_isFit 3 = .ok (.istore 4, 2) := by decide +kernel
theorem dX12_isFit_5 : decode cX12_isFit 5 = .ok (.iload 4, 2) := by decide +kernel
theorem dX12_isFit_7 : decode cX12_isFit 7 = .ok (.aload_n 0, 1) := by decide +kernel
theorem dX12_isFit_8 : decode cX12_isFit 8 = .ok (.getfield 154, 3) := by decide +kernel
theorem dX12_isFit_11 : decode cX12_isFit 11 = .ok (.if_icmp .ge 48, 3) := by decide +kernel
theorem dX12_isFit_14 : decode cX12_isFit 14 = .ok (.iload_n 3, 1) := by decide +kernel
theorem dX12_isFit_15 : decode cX12_isFit 15 = .ok (.ifCond .eq 36, 3) := by decide +kernel
theorem dX12_isFit_18 : decode cX12_isFit 18 = .ok (.aload_n 0, 1) := by decide +kernel
theorem dX12_isFit_19 : decode cX12_isFit 19 = .ok (.getfield 71, 3) := by decide +kernel
theorem dX12_isFit_22 : decode cX12_isFit 22 = .ok (.iload 4, 2) := by decide +kernel
theorem dX12_isFit_24 : decode cX12_isFit 24 = .ok (.iaload, 1) := by decide +kernel
theorem dX12_isFit_25 : decode cX12_isFit 25 = .ok (.iconst (-1), 1) := by decide +kernel
theorem dX12_isFit_26 : decode cX12_isFit 26 = .ok (.if_icmp .eq 21, 3) := by decide +kernel
theorem dX12_isFit_29 : decode cX12_isFit 29 = .ok (.aload_n 0, 1) := by decide +kernel
theorem dX12_isFit_30 : decode cX12_isFit 30 = .ok (.iload 4, 2) := by decide +kernel
theorem dX12_isFit_32 : decode cX12_isFit 32 = .ok (.iload_n 1, 1) := by decide +kernel
theorem dX12_isFit_33 : decode cX12_isFit 33 = .ok (.iload_n 2, 1) := by decide +kernel
theorem dX12_isFit_34 : decode cX12_isFit 34 = .ok (.invokevirtual 416, 3) := by decide +kernel
theorem dX12_isFit_37 : decode cX12_isFit 37 = .ok (.aload_n 0, 1) := by decide +kernel
theorem dX12_isFit_38 : decode cX12_isFit 38 = .ok (.getfield 71, 3) := by decide +kernel
theorem dX12_isFit_41 : decode cX12_isFit 41 = .ok (.iload 4, 2) := by decide +kernel
theorem dX12_isFit_43 : decode cX12_isFit 43 = .ok (.iaload, 1) := by decide +kernel
theorem dX12_isFit_44 : decode cX12_isFit 44 = .ok (.if_icmp .ne 7, 3) := by decide +kernel
theorem dX12_isFit_47 : decode cX12_isFit 47 = .ok (.iconst 1, 1) := by decide +kernel
theorem dX12_isFit_48 : decode cX12_isFit 48 = .ok (.goto 4, 3) := by decide +kernel
theorem dX12_isFit_51 : decode cX12_isFit 51 = .ok (.iconst 0, 1) := by decide +kernel
theorem dX12_isFit_52 : decode cX12_isFit 52 = .ok (.istore_n 3, 1) := by decide +kernel
theorem dX12_isFit_53 : decode cX12_isFit 53 = .ok (.iinc 4 1, 3) := by decide +kernel
theorem dX12_isFit_56 : decode cX12_isFit 56 = .ok (.goto (-51), 3) := by decide +kernel
theorem dX12_isFit_59 : decode cX12_isFit 59 = .ok (.iload_n 3, 1) := by decide +kernel
theorem dX12_isFit_60 : decode cX12_isFit 60 = .ok (.ireturn, 1) := by decide +kernel
theorem dX12_fits_0 : decode cX12_fits 0 = .ok (.aload_n 0, 1) := by decide +kernel
theorem dX12_fits_1 : decode cX12_fits 1 = .ok (.iconst 0, 1) := by decide +kernel
theorem dX12_fits_2 : decode cX12_fits 2 = .ok (.putfield 3, 3) := by decide +kernel
theorem dX12_fits_5 : decode cX12_fits 5 = .ok (.aload_n 0, 1) := by decide +kernel
theorem dX12_fits_6 : decode cX12_fits 6 = .ok (.iload_n 1, 1) := by decide +kernel
theorem dX12_fits_7 : decode cX12_fits 7 = .ok (.iconst 0, 1) := by decide +kernel
theorem dX12_fits_8 : decode cX12_fits 8 = .ok (.iconst 1, 1) := by decide +kernel
theorem dX12_fits_9 : decode cX12_fits 9 = .ok (.invokestatic 373, 3) := by decide +kernel
theorem dX12_fits_12 : decode cX12_fits 12 = .ok (.iconst 1, 1) := by decide +kernel
theorem dX12_fits_13 : decode cX12_fits 13 = .ok (.iconst 1, 1) := by decide +kernel
theorem dX12_fits_14 : decode cX12_fits 14 = .ok (.invokevirtual 192, 3) := by decide +kernel
theorem dX12_fits_17 : decode cX12_fits 17 = .ok (.ifCond .ne 5, 3) := by decide +kernel
theorem dX12_fits_20 : decode cX12_fits 20 = .ok (.iconst 0, 1) := by decide +kernel
theorem dX12_fits_21 : decode cX12_fits 21 = .ok (.ireturn, 1) := by decide +kernel
theorem dX12_fits_22 : decode cX12_fits 22 = .ok (.aload_n 0, 1) := by decide +kernel
theorem dX12_fits_23 : decode cX12_fits 23 = .ok (.invokevirtual 310, 3) := by decide +kernel
theorem dX12_fits_26 : decode cX12_fits 26 = .ok (.iconst 0, 1) := by decide +kernel
theorem dX12_fits_27 : decode cX12_fits 27 = .ok (.istore_n 2, 1) := by decide +kernel
theorem dX12_fits_28 : decode cX12_fits 28 = .ok (.iconst (-1), 1) := by decide +kernel
theorem dX12_fits_29 : decode cX12_fits 29 = .ok (.istore_n 3, 1) := by decide +kernel
theorem dX12_fits_30 : decode cX12_fits 30 = .ok (.iconst 0, 1) := by decide +kernel
theorem dX12_fits_31 : decode cX12_fits 31 = .ok (.istore 4, 2) := by decide +kernel
theorem dX12_fits_33 : decode cX12_fits 33 = .ok (.iload 4, 2) := by decide +kernel
theorem dX12_fits_35 : decode cX12_fits 35 = .ok (.aload_n 0, 1) := by decide +kernel
theorem dX12_fits_36 : decode cX12_fits 36 = .ok (.getfield 154, 3) := by decide +kernel
theorem dX12_fits_39 : decode cX12_fits 39 = .ok (.if_icmp .ge 62, 3) := by decide +kernel
theorem dX12_fits_42 : decode cX12_fits 42 = .ok (.iconst 0, 1) := by decide +kernel
theorem dX12_fits_43 : decode cX12_fits 43 = .ok (.istore 5, 2) := by decide +kernel
theorem dX12_fits_45 : decode cX12_fits 45 = .ok (.iload 5, 2) := by decide +kernel
theorem dX12_fits_47 : decode cX12_fits 47 = .ok (.aload_n 0, 1) := by decide +kernel
theorem dX12_fits_48 : decode cX12_fits 48 = .ok (.getfield 157, 3) := by decide +kernel
theorem dX12_fits_51 : decode cX12_fits 51 = .ok (.if_icmp .ge 44, 3) := by decide +kernel
theorem dX12_fits_54 : decode cX12_fits 54 = .ok (.aload_n 0, 1) := by decide +kernel
theorem dX12_fits_55 : decode cX12_fits 55 = .ok (.iload 4, 2) := by decide +kernel
theorem dX12_fits_57 : decode cX12_fits 57 = .ok (.iload 5, 2) := by decide +kernel
theorem dX12_fits_59 : decode cX12_fits 59 = .ok (.invokevirtual 419, 3) := by decide +kernel
theorem dX12_fits_62 : decode cX12_fits 62 = .ok (.ifCond .ne 6, 3) := by decide +kernel
theorem dX12_fits_65 : decode cX12_fits 65 = .ok (.goto 24, 3) := by decide +kernel
theorem dX12_fits_68 : decode cX12_fits 68 = .ok (.iinc 2 1, 3) := by decide +kernel
theorem dX12_fits_71 : decode cX12_fits 71 = .ok (.iload_n 3, 1) := by decide +kernel
theorem dX12_fits_72 : decode cX12_fits 72 = .ok (.iconst (-1), 1) := by decide +kernel
theorem dX12_fits_73 : decode cX12_fits 73 = .ok (.if_icmp .ne 14, 3) := by decide +kernel
theorem dX12_fits_76 : decode cX12_fits 76 = .ok (.bipush 100, 2) := by decide +kernel
theorem dX12_fits_78 : decode cX12_fits 78 = .ok (.iload 4, 2) := by decide +kernel
theorem dX12_fits_80 : decode cX12_fits 80 = .ok (.imul, 1) := by decide +kernel
theorem dX12_fits_81 : decode cX12_fits 81 = .ok (.iload 5, 2) := by decide +kernel
theorem dX12_fits_83 : decode cX12_fits 83 = .ok (.iadd, 1) := by decide +kernel
theorem dX12_fits_84 : decode cX12_fits 84 = .ok (.goto 4, 3) := by decide +kernel
theorem dX12_fits_87 : decode cX12_fits 87 = .ok (.iload_n 3, 1) := by decide +kernel
theorem dX12_fits_88 : decode cX12_fits 88 = .ok (.istore_n 3, 1) := by decide +kernel
theorem dX12_fits_89 : decode cX12_fits 89 = .ok (.iinc 5 1, 3) := by decide +kernel
theorem dX12_fits_92 : decode cX12_fits 92 = .ok (.goto (-47), 3) := by decide +kernel
theorem dX12_fits_95 : decode cX12_fits 95 = .ok (.iinc 4 1, 3) := by decide +kernel
theorem dX12_fits_98 : decode cX12_fits 98 = .ok (.goto (-65), 3) := by decide +kernel
theorem dX12_fits_101 : decode cX12_fits 101 = .ok (.iload_n 1, 1) := by decide +kernel
theorem dX12_fits_102 : decode cX12_fits 102 = .ok (.ifCond .ne 7, 3) := by decide +kernel
theorem dX12_fits_105 : decode cX12_fits 105 = .ok (.iload_n 2, 1) := by decide +kernel
theorem dX12_fits_106 : decode cX12_fits 106 = .ok (.goto 4, 3) := by decide +kernel
theorem dX12_fits_109 : decode cX12_fits 109 = .ok (.iload_n 3, 1) := by decide +kernel
theorem dX12_fits_110 : decode cX12_fits 110 = .ok (.ireturn, 1) := by decide +kernel
theorem dX12_worstOf_0 : decode cX12_worstOf 0 = .ok (.iconst 0, 1) := by decide +kernel
theorem dX12_worstOf_1 : decode cX12_worstOf 1 = .ok (.istore_n 2, 1) := by decide +kernel
theorem dX12_worstOf_2 : decode cX12_worstOf 2 = .ok (.iload_n 2, 1) := by decide +kernel
theorem dX12_worstOf_3 : decode cX12_worstOf 3 = .ok (.sipush 1000, 3) := by decide +kernel
theorem dX12_worstOf_6 : decode cX12_worstOf 6 = .ok (.if_icmp .ge 16, 3) := by decide +kernel
theorem dX12_worstOf_9 : decode cX12_worstOf 9 = .ok (.aload_n 0, 1) := by decide +kernel
theorem dX12_worstOf_10 : decode cX12_worstOf 10 = .ok (.getfield 83, 3) := by decide +kernel
theorem dX12_worstOf_13 : decode cX12_worstOf 13 = .ok (.iload_n 2, 1) := by decide +kernel
theorem dX12_worstOf_14 : decode cX12_worstOf 14 = .ok (.iconst 0, 1) := by decide +kernel
theorem dX12_worstOf_15 : decode cX12_worstOf 15 = .ok (.iastore, 1) := by decide +kernel
theorem dX12_worstOf_16 : decode cX12_worstOf 16 = .ok (.iinc 2 1, 3) := by decide +kernel
theorem dX12_worstOf_19 : decode cX12_worstOf 19 = .ok (.goto (-17), 3) := by decide +kernel
theorem dX12_worstOf_22 : decode cX12_worstOf 22 = .ok (.iconst 0, 1) := by decide +kernel
theorem dX12_worstOf_23 : decode cX12_worstOf 23 = .ok (.istore_n 2, 1) := by decide +kernel
theorem dX12_worstOf_24 : decode cX12_worstOf 24 = .ok (.iconst 0, 1) := by decide +kernel
theorem dX12_worstOf_25 : decode cX12_worstOf 25 = .ok (.istore_n 3, 1) := by decide +kernel
theorem dX12_worstOf_26 : decode cX12_worstOf 26 = .ok (.iload_n 3, 1) := by decide +kernel
theorem dX12_worstOf_27 : decode cX12_worstOf 27 = .ok (.aload_n 0, 1) := by decide +kernel
theorem dX12_worstOf_28 : decode cX12_worstOf 28 = .ok (.getfield 154, 3) := by decide +kernel
theorem dX12_worstOf_31 : decode cX12_worstOf 31 = .ok (.if_icmp .ge 84, 3) := by decide +kernel
theorem dX12_worstOf_34 : decode cX12_worstOf 34 = .ok (.iconst 0, 1) := by decide +kernel
theorem dX12_worstOf_35 : decode cX12_worstOf 35 = .ok (.istore 4, 2) := by decide +kernel
theorem dX12_worstOf_37 : decode cX12_worstOf 37 = .ok (.iload 4, 2) := by decide +kernel
theorem dX12_worstOf_39 : decode cX12_worstOf 39 = .ok (.aload_n 0, 1) := by decide +kernel
theorem dX12_worstOf_40 : decode cX12_worstOf 40 = .ok (.getfield 157, 3) := by decide +kernel
theorem dX12_worstOf_43 : decode cX12_worstOf 43 = .ok (.if_icmp .ge 66, 3) := by decide +kernel
theorem dX12_worstOf_46 : decode cX12_worstOf 46 = .ok (.aload_n 0, 1) := by decide +kernel
theorem dX12_worstOf_47 : decode cX12_worstOf 47 = .ok (.iload_n 3, 1) := by decide +kernel
theorem dX12_worstOf_48 : decode cX12_worstOf 48 = .ok (.iload 4, 2) := by decide +kernel
theorem dX12_worstOf_50 : decode cX12_worstOf 50 = .ok (.invokevirtual 419, 3) := by decide +kernel
theorem dX12_worstOf_53 : decode cX12_worstOf 53 = .ok (.ifCond .ne 6, 3) := by decide +kernel
theorem dX12_worstOf_56 : decode cX12_worstOf 56 = .ok (.goto 47, 3) := by decide +kernel
theorem dX12_worstOf_59 : decode cX12_worstOf 59 = .ok (.aload_n 0, 1) := by decide +kernel
theorem dX12_worstOf_60 : decode cX12_worstOf 60 = .ok (.iload_n 1, 1) := by decide +kernel
theorem dX12_worstOf_61 : decode cX12_worstOf 61 = .ok (.iload_n 3, 1) := by decide +kernel
theorem dX12_worstOf_62 : decode cX12_worstOf 62 = .ok (.iload 4, 2) := by decide +kernel
theorem dX12_worstOf_64 : decode cX12_worstOf 64 = .ok (.invokevirtual 416, 3) := by decide +kernel
theorem dX12_worstOf_67 : decode cX12_worstOf 67 = .ok (.istore 5, 2) := by decide +kernel
theorem dX12_worstOf_69 : decode cX12_worstOf 69 = .ok (.aload_n 0, 1) := by decide +kernel
theorem dX12_worstOf_70 : decode cX12_worstOf 70 = .ok (.getfield 83, 3) := by decide +kernel
theorem dX12_worstOf_73 : decode cX12_worstOf 73 = .ok (.iload 5, 2) := by decide +kernel
theorem dX12_worstOf_75 : decode cX12_worstOf 75 = .ok (.dup2, 1) := by decide +kernel
theorem dX12_worstOf_76 : decode cX12_worstOf 76 = .ok (.iaload, 1) := by decide +kernel
theorem dX12_worstOf_77 : decode cX12_worstOf 77 = .ok (.iconst 1, 1) := by decide +kernel
theorem dX12_worstOf_78 : decode cX12_worstOf 78 = .ok (.iadd, 1) := by decide +kernel
theorem dX12_worstOf_79 : decode cX12_worstOf 79 = .ok (.iastore, 1) := by decide +kernel
theorem dX12_worstOf_80 : decode cX12_worstOf 80 = .ok (.aload_n 0, 1) := by decide +kernel
theorem dX12_worstOf_81 : decode cX12_worstOf 81 = .ok (.getfield 83, 3) := by decide +kernel
theorem dX12_worstOf_84 : decode cX12_worstOf 84 = .ok (.iload 5, 2) := by decide +kernel
theorem dX12_worstOf_86 : decode cX12_worstOf 86 = .ok (.iaload, 1) := by decide +kernel
theorem dX12_worstOf_87 : decode cX12_worstOf 87 = .ok (.iload_n 2, 1) := by decide +kernel
theorem dX12_worstOf_88 : decode cX12_worstOf 88 = .ok (.if_icmp .le 13, 3) := by decide +kernel
theorem dX12_worstOf_91 : decode cX12_worstOf 91 = .ok (.aload_n 0, 1) := by decide +kernel
theorem dX12_worstOf_92 : decode cX12_worstOf 92 = .ok (.getfield 83, 3) := by decide +kernel
theorem dX12_worstOf_95 : decode cX12_worstOf 95 = .ok (.iload 5, 2) := by decide +kernel
theorem dX12_worstOf_97 : decode cX12_worstOf 97 = .ok (.iaload, 1) := by decide +kernel
theorem dX12_worstOf_98 : decode cX12_worstOf 98 = .ok (.goto 4, 3) := by decide +kernel
theorem dX12_worstOf_101 : decode cX12_worstOf 101 = .ok (.iload_n 2, 1) := by decide +kernel
theorem dX12_worstOf_102 : decode cX12_worstOf 102 = .ok (.istore_n 2, 1) := by decide +kernel
theorem dX12_worstOf_103 : decode cX12_worstOf 103 = .ok (.iinc 4 1, 3) := by decide +kernel
theorem dX12_worstOf_106 : decode cX12_worstOf 106 = .ok (.goto (-69), 3) := by decide +kernel
theorem dX12_worstOf_109 : decode cX12_worstOf 109 = .ok (.iinc 3 1, 3) := by decide +kernel
theorem dX12_worstOf_112 : decode cX12_worstOf 112 = .ok (.goto (-86), 3) := by decide +kernel
theorem dX12_worstOf_115 : decode cX12_worstOf 115 = .ok (.iload_n 2, 1) := by decide +kernel
theorem dX12_worstOf_116 : decode cX12_worstOf 116 = .ok (.ireturn, 1) := by decide +kernel
theorem dX12_look_0 : decode cX12_look 0 = .ok (.aload_n 0, 1) := by decide +kernel
theorem dX12_look_1 : decode cX12_look 1 = .ok (.iconst 0, 1) := by decide +kernel
theorem dX12_look_2 : decode cX12_look 2 = .ok (.putfield 3, 3) := by decide +kernel
theorem dX12_look_5 : decode cX12_look 5 = .ok (.aload_n 0, 1) := by decide +kernel
theorem dX12_look_6 : decode cX12_look 6 = .ok (.iload_n 1, 1) := by decide +kernel
theorem dX12_look_7 : decode cX12_look 7 = .ok (.iconst 0, 1) := by decide +kernel
theorem dX12_look_8 : decode cX12_look 8 = .ok (.iconst 1, 1) := by decide +kernel
theorem dX12_look_9 : decode cX12_look 9 = .ok (.invokestatic 373, 3) := by decide +kernel
theorem dX12_look_12 : decode cX12_look 12 = .ok (.iconst 1, 1) := by decide +kernel
theorem dX12_look_13 : decode cX12_look 13 = .ok (.iconst 1, 1) := by decide +kernel
theorem dX12_look_14 : decode cX12_look 14 = .ok (.invokevirtual 192, 3) := by decide +kernel
theorem dX12_look_17 : decode cX12_look 17 = .ok (.ifCond .ne 5, 3) := by decide +kernel
theorem dX12_look_20 : decode cX12_look 20 = .ok (.iconst 0, 1) := by decide +kernel
theorem dX12_look_21 : decode cX12_look 21 = .ok (.ireturn, 1) := by decide +kernel
theorem dX12_look_22 : decode cX12_look 22 = .ok (.aload_n 0, 1) := by decide +kernel
theorem dX12_look_23 : decode cX12_look 23 = .ok (.invokevirtual 310, 3) := by decide +kernel
theorem dX12_look_26 : decode cX12_look 26 = .ok (.iconst (-1), 1) := by decide +kernel
theorem dX12_look_27 : decode cX12_look 27 = .ok (.istore_n 2, 1) := by decide +kernel
theorem dX12_look_28 : decode cX12_look 28 = .ok (.iconst (-1), 1) := by decide +kernel
theorem dX12_look_29 : decode cX12_look 29 = .ok (.istore_n 3, 1) := by decide +kernel
theorem dX12_look_30 : decode cX12_look 30 = .ok (.iconst 0, 1) := by decide +kernel
theorem dX12_look_31 : decode cX12_look 31 = .ok (.istore 4, 2) := by decide +kernel
theorem dX12_look_33 : decode cX12_look 33 = .ok (.iload 4, 2) := by decide +kernel
theorem dX12_look_35 : decode cX12_look 35 = .ok (.aload_n 0, 1) := by decide +kernel
theorem dX12_look_36 : decode cX12_look 36 = .ok (.getfield 154, 3) := by decide +kernel
theorem dX12_look_39 : decode cX12_look 39 = .ok (.if_icmp .ge 51, 3) := by decide +kernel
theorem dX12_look_42 : decode cX12_look 42 = .ok (.aload_n 0, 1) := by decide +kernel
theorem dX12_look_43 : decode cX12_look 43 = .ok (.getfield 71, 3) := by decide +kernel
theorem dX12_look_46 : decode cX12_look 46 = .ok (.iload 4, 2) := by decide +kernel
theorem dX12_look_48 : decode cX12_look 48 = .ok (.iaload, 1) := by decide +kernel
theorem dX12_look_49 : decode cX12_look 49 = .ok (.iconst (-1), 1) := by decide +kernel
theorem dX12_look_50 : decode cX12_look 50 = .ok (.if_icmp .eq 6, 3) := by decide +kernel
theorem dX12_look_53 : decode cX12_look 53 = .ok (.goto 31, 3) := by decide +kernel
theorem dX12_look_56 : decode cX12_look 56 = .ok (.aload_n 0, 1) := by decide +kernel
theorem dX12_look_57 : decode cX12_look 57 = .ok (.iload 4, 2) := by decide +kernel
theorem dX12_look_59 : decode cX12_look 59 = .ok (.invokevirtual 422, 3) := by decide +kernel
theorem dX12_look_62 : decode cX12_look 62 = .ok (.istore 5, 2) := by decide +kernel
theorem dX12_look_64 : decode cX12_look 64 = .ok (.iload_n 2, 1) := by decide +kernel
theorem dX12_look_65 : decode cX12_look 65 = .ok (.iconst (-1), 1) := by decide +kernel
theorem dX12_look_66 : decode cX12_look 66 = .ok (.if_icmp .eq 12, 3) := by decide +kernel
theorem dX12_look_69 : decode cX12_look 69 = .ok (.iload 5, 2) := by decide +kernel
theorem dX12_look_71 : decode cX12_look 71 = .ok (.iload_n 3, 1) := by decide +kernel
theorem dX12_look_72 : decode cX12_look 72 = .ok (.if_icmp .lt 6, 3) := by decide +kernel
theorem dX12_look_75 : decode cX12_look 75 = .ok (.goto 9, 3) := by decide +kernel
theorem dX12_look_78 : decode cX12_look 78 = .ok (.iload 4, 2) := by decide +kernel
theorem dX12_look_80 : decode cX12_look 80 = .ok (.istore_n 2, 1) := by decide +kernel
theorem dX12_look_81 : decode cX12_look 81 = .ok (.iload 5, 2) := by decide +kernel
theorem dX12_look_83 : decode cX12_look 83 = .ok (.istore_n 3, 1) := by decide +kernel
theorem dX12_look_84 : decode cX12_look 84 = .ok (.iinc 4 1, 3) := by decide +kernel
theorem dX12_look_87 : decode cX12_look 87 = .ok (.goto (-54), 3) := by decide +kernel
theorem dX12_look_90 : decode cX12_look 90 = .ok (.iload_n 1, 1) := by decide +kernel
theorem dX12_look_91 : decode cX12_look 91 = .ok (.ifCond .ne 7, 3) := by decide +kernel
theorem dX12_look_94 : decode cX12_look 94 = .ok (.iload_n 2, 1) := by decide +kernel
theorem dX12_look_95 : decode cX12_look 95 = .ok (.goto 4, 3) := by decide +kernel
theorem dX12_look_98 : decode cX12_look 98 = .ok (.iload_n 3, 1) := by decide +kernel
theorem dX12_look_99 : decode cX12_look 99 = .ok (.ireturn, 1) := by decide +kernel
theorem dX12_strengthOf_0 : decode cX12_strengthOf 0 = .ok (.iconst 0, 1) := by decide +kernel
theorem dX12_strengthOf_1 : decode cX12_strengthOf 1 = .ok (.istore_n 2, 1) := by decide +kernel
theorem dX12_strengthOf_2 : decode cX12_strengthOf 2 = .ok (.iconst 0, 1) := by decide +kernel
theorem dX12_strengthOf_3 : decode cX12_strengthOf 3 = .ok (.istore_n 3, 1) := by decide +kernel
theorem dX12_strengthOf_4 : decode cX12_strengthOf 4 = .ok (.iload_n 3, 1) := by decide +kernel
theorem dX12_strengthOf_5 : decode cX12_strengthOf 5 = .ok (.aload_n 0, 1) := by decide +kernel
theorem dX12_strengthOf_6 : decode cX12_strengthOf 6 = .ok (.getfield 154, 3) := by decide +kernel
theorem dX12_strengthOf_9 : decode cX12_strengthOf 9 = .ok (.if_icmp .ge 26, 3) := by decide +kernel
theorem dX12_strengthOf_12 : decode cX12_strengthOf 12 = .ok (.iload_n 2, 1) := by decide +kernel
theorem dX12_strengthOf_13 : decode cX12_strengthOf 13 = .ok (.iload_n 1, 1) := by decide +kernel
theorem dX12_strengthOf_14 : decode cX12_strengthOf 14 = .ok (.iload_n 3, 1) := by decide +kernel
theorem dX12_strengthOf_15 : decode cX12_strengthOf 15 = .ok (.ishr, 1) := by decide +kernel
theorem dX12_strengthOf_16 : decode cX12_strengthOf 16 = .ok (.iconst 1, 1) := by decide +kernel
theorem dX12_strengthOf_17 : decode cX12_strengthOf 17 = .ok (.iand, 1) := by decide +kernel
theorem dX12_strengthOf_18 : decode cX12_strengthOf 18 = .ok (.aload_n 0, 1) := by decide +kernel
theorem dX12_strengthOf_19 : decode cX12_strengthOf 19 = .ok (.getfield 29, 3) := by decide +kernel
theorem dX12_strengthOf_22 : decode cX12_strengthOf 22 = .ok (.iconst 2, 1) := by decide +kernel
theorem dX12_strengthOf_23 : decode cX12_strengthOf 23 = .ok (.iload_n 3, 1) := by decide +kernel
theorem dX12_strengthOf_24 : decode cX12_strengthOf 24 = .ok (.imul, 1) := by decide +kernel
theorem dX12_strengthOf_25 : decode cX12_strengthOf 25 = .ok (.iaload, 1) := by decide +kernel
theorem dX12_strengthOf_26 : decode cX12_strengthOf 26 = .ok (.imul, 1) := by decide +kernel
theorem dX12_strengthOf_27 : decode cX12_strengthOf 27 = .ok (.iadd, 1) := by decide +kernel
theorem dX12_strengthOf_28 : decode cX12_strengthOf 28 = .ok (.istore_n 2, 1) := by decide +kernel
theorem dX12_strengthOf_29 : decode cX12_strengthOf 29 = .ok (.iinc 3 1, 3) := by decide +kernel
theorem dX12_strengthOf_32 : decode cX12_strengthOf 32 = .ok (.goto (-28), 3) := by decide +kernel
theorem dX12_strengthOf_35 : decode cX12_strengthOf 35 = .ok (.iload_n 2, 1) := by decide +kernel
theorem dX12_strengthOf_36 : decode cX12_strengthOf 36 = .ok (.ireturn, 1) := by decide +kernel
theorem dX12_quorum_0 : decode cX12_quorum 0 = .ok (.aload_n 0, 1) := by decide +kernel
theorem dX12_quorum_1 : decode cX12_quorum 1 = .ok (.iconst 0, 1) := by decide +kernel
theorem dX12_quorum_2 : decode cX12_quorum 2 = .ok (.putfield 3, 3) := by decide +kernel
theorem dX12_quorum_5 : decode cX12_quorum 5 = .ok (.aload_n 0, 1) := by decide +kernel
theorem dX12_quorum_6 : decode cX12_quorum 6 = .ok (.iload_n 1, 1) := by decide +kernel
theorem dX12_quorum_7 : decode cX12_quorum 7 = .ok (.iconst 1, 1) := by decide +kernel
theorem dX12_quorum_8 : decode cX12_quorum 8 = .ok (.sipush 693, 3) := by decide +kernel
theorem dX12_quorum_11 : decode cX12_quorum 11 = .ok (.invokestatic 373, 3) := by decide +kernel
theorem dX12_quorum_14 : decode cX12_quorum 14 = .ok (.ifCond .eq 16, 3) := by decide +kernel
theorem dX12_quorum_17 : decode cX12_quorum 17 = .ok (.iload_n 2, 1) := by decide +kernel
theorem dX12_quorum_18 : decode cX12_quorum 18 = .ok (.iconst 0, 1) := by decide +kernel
theorem dX12_quorum_19 : decode cX12_quorum 19 = .ok (.iconst 1, 1) := by decide +kernel
theorem dX12_quorum_20 : decode cX12_quorum 20 = .ok (.invokestatic 373, 3) := by decide +kernel
theorem dX12_quorum_23 : decode cX12_quorum 23 = .ok (.ifCond .eq 7, 3) := by decide +kernel
theorem dX12_quorum_26 : decode cX12_quorum 26 = .ok (.iconst 1, 1) := by decide +kernel
theorem dX12_quorum_27 : decode cX12_quorum 27 = .ok (.goto 4, 3) := by decide +kernel
theorem dX12_quorum_30 : decode cX12_quorum 30 = .ok (.iconst 0, 1) := by decide +kernel
theorem dX12_quorum_31 : decode cX12_quorum 31 = .ok (.iconst 1, 1) := by decide +kernel
theorem dX12_quorum_32 : decode cX12_quorum 32 = .ok (.iconst 1, 1) := by decide +kernel
theorem dX12_quorum_33 : decode cX12_quorum 33 = .ok (.invokevirtual 192, 3) := by decide +kernel
theorem dX12_quorum_36 : decode cX12_quorum 36 = .ok (.ifCond .ne 5, 3) := by decide +kernel
theorem dX12_quorum_39 : decode cX12_quorum 39 = .ok (.iconst 0, 1) := by decide +kernel
theorem dX12_quorum_40 : decode cX12_quorum 40 = .ok (.ireturn, 1) := by decide +kernel
theorem dX12_quorum_41 : decode cX12_quorum 41 = .ok (.aload_n 0, 1) := by decide +kernel
theorem dX12_quorum_42 : decode cX12_quorum 42 = .ok (.invokevirtual 310, 3) := by decide +kernel
theorem dX12_quorum_45 : decode cX12_quorum 45 = .ok (.aload_n 0, 1) := by decide +kernel
theorem dX12_quorum_46 : decode cX12_quorum 46 = .ok (.invokevirtual 425, 3) := by decide +kernel
theorem dX12_quorum_49 : decode cX12_quorum 49 = .ok (.istore_n 3, 1) := by decide +kernel
theorem dX12_quorum_50 : decode cX12_quorum 50 = .ok (.iconst 0, 1) := by decide +kernel
theorem dX12_quorum_51 : decode cX12_quorum 51 = .ok (.istore 4, 2) := by decide +kernel
theorem dX12_quorum_53 : decode cX12_quorum 53 = .ok (.iconst 0, 1) := by decide +kernel
theorem dX12_quorum_54 : decode cX12_quorum 54 = .ok (.istore 5, 2) := by decide +kernel
theorem dX12_quorum_56 : decode cX12_quorum 56 = .ok (.iconst 0, 1) := by decide +kernel
theorem dX12_quorum_57 : decode cX12_quorum 57 = .ok (.istore 6, 2) := by decide +kernel
theorem dX12_quorum_59 : decode cX12_quorum 59 = .ok (.iload 6, 2) := by decide +kernel
theorem dX12_quorum_61 : decode cX12_quorum 61 = .ok (.iload_n 3, 1) := by decide +kernel
theorem dX12_quorum_62 : decode cX12_quorum 62 = .ok (.if_icmp .gt 109, 3) := by decide +kernel
theorem dX12_quorum_65 : decode cX12_quorum 65 = .ok (.iload 6, 2) := by decide +kernel
theorem dX12_quorum_67 : decode cX12_quorum 67 = .ok (.iload_n 3, 1) := by decide +kernel
theorem dX12_quorum_68 : decode cX12_quorum 68 = .ok (.iconst (-1), 1) := by decide +kernel
theorem dX12_quorum_69 : decode cX12_quorum 69 = .ok (.ixor, 1) := by decide +kernel
theorem dX12_quorum_70 : decode cX12_quorum 70 = .ok (.iand, 1) := by decide +kernel
theorem dX12_quorum_71 : decode cX12_quorum 71 = .ok (.ifCond .ne 94, 3) := by decide +kernel
theorem dX12_quorum_74 : decode cX12_quorum 74 = .ok (.aload_n 0, 1) := by decide +kernel
theorem dX12_quorum_75 : decode cX12_quorum 75 = .ok (.iload 6, 2) := by decide +kernel
theorem dX12_quorum_77 : decode cX12_quorum 77 = .ok (.invokevirtual 428, 3) := by decide +kernel
theorem dX12_quorum_80 : decode cX12_quorum 80 = .ok (.iload_n 1, 1) := by decide +kernel
theorem dX12_quorum_81 : decode cX12_quorum 81 = .ok (.if_icmp .ge 6, 3) := by decide +kernel
theorem dX12_quorum_84 : decode cX12_quorum 84 = .ok (.goto 81, 3) := by decide +kernel
theorem dX12_quorum_87 : decode cX12_quorum 87 = .ok (.iinc 4 1, 3) := by decide +kernel
theorem dX12_quorum_90 : decode cX12_quorum 90 = .ok (.iconst 1, 1) := by decide +kernel
theorem dX12_quorum_91 : decode cX12_quorum 91 = .ok (.istore 7, 2) := by decide +kernel
theorem dX12_quorum_93 : decode cX12_quorum 93 = .ok (.iconst 0, 1) := by decide +kernel
theorem dX12_quorum_94 : decode cX12_quorum 94 = .ok (.istore 8, 2) := by decide +kernel
theorem dX12_quorum_96 : decode cX12_quorum 96 = .ok (.iload 8, 2) := by decide +kernel
theorem dX12_quorum_98 : decode cX12_quorum 98 = .ok (.aload_n 0, 1) := by decide +kernel
theorem dX12_quorum_99 : decode cX12_quorum 99 = .ok (.getfield 154, 3) := by decide +kernel
theorem dX12_quorum_102 : decode cX12_quorum 102 = .ok (.if_icmp .ge 48, 3) := by decide +kernel
theorem dX12_quorum_105 : decode cX12_quorum 105 = .ok (.iload 7, 2) := by decide +kernel
theorem dX12_quorum_107 : decode cX12_quorum 107 = .ok (.ifCond .eq 34, 3) := by decide +kernel
theorem dX12_quorum_110 : decode cX12_quorum 110 = .ok (.iload 6, 2) := by decide +kernel
theorem dX12_quorum_112 : decode cX12_quorum 112 = .ok (.iload 8, 2) := by decide +kernel
theorem dX12_quorum_114 : decode cX12_quorum 114 = .ok (.ishr, 1) := by decide +kernel
theorem dX12_quorum_115 : decode cX12_quorum 115 = .ok (.iconst 1, 1) := by decide +kernel
theorem dX12_quorum_116 : decode cX12_quorum 116 = .ok (.iand, 1) := by decide +kernel
theorem dX12_quorum_117 : decode cX12_quorum 117 = .ok (.ifCond .eq 20, 3) := by decide +kernel
theorem dX12_quorum_120 : decode cX12_quorum 120 = .ok (.aload_n 0, 1) := by decide +kernel
theorem dX12_quorum_121 : decode cX12_quorum 121 = .ok (.iload 6, 2) := by decide +kernel
theorem dX12_quorum_123 : decode cX12_quorum 123 = .ok (.iconst 1, 1) := by decide +kernel
theorem dX12_quorum_124 : decode cX12_quorum 124 = .ok (.iload 8, 2) := by decide +kernel
theorem dX12_quorum_126 : decode cX12_quorum 126 = .ok (.ishl, 1) := by decide +kernel
theorem dX12_quorum_127 : decode cX12_quorum 127 = .ok (.iconst (-1), 1) := by decide +kernel
theorem dX12_quorum_128 : decode cX12_quorum 128 = .ok (.ixor, 1) := by decide +kernel
theorem dX12_quorum_129 : decode cX12_quorum 129 = .ok (.iand, 1) := by decide +kernel
theorem dX12_quorum_130 : decode cX12_quorum 130 = .ok (.invokevirtual 428, 3) := by decide +kernel
theorem dX12_quorum_133 : decode cX12_quorum 133 = .ok (.iload_n 1, 1) := by decide +kernel
theorem dX12_quorum_134 : decode cX12_quorum 134 = .ok (.if_icmp .ge 7, 3) := by decide +kernel
theorem dX12_quorum_137 : decode cX12_quorum 137 = .ok (.iconst 1, 1) := by decide +kernel
theorem dX12_quorum_138 : decode cX12_quorum 138 = .ok (.goto 4, 3) := by decide +kernel
theorem dX12_quorum_141 : decode cX12_quorum 141 = .ok (.iconst 0, 1) := by decide +kernel
theorem dX12_quorum_142 : decode cX12_quorum 142 = .ok (.istore 7, 2) := by decide +kernel
theorem dX12_quorum_144 : decode cX12_quorum 144 = .ok (.iinc 8 1, 3) := by decide +kernel
theorem dX12_quorum_147 : decode cX12_quorum 147 = .ok (.goto (-51), 3) := by decide +kernel
theorem dX12_quorum_150 : decode cX12_quorum 150 = .ok (.iload 5, 2) := by decide +kernel
theorem dX12_quorum_152 : decode cX12_quorum 152 = .ok (.iload 7, 2) := by decide +kernel
theorem dX12_quorum_154 : decode cX12_quorum 154 = .ok (.ifCond .eq 7, 3) := by decide +kernel
theorem dX12_quorum_157 : decode cX12_quorum 157 = .ok (.iconst 1, 1) := by decide +kernel
theorem dX12_quorum_158 : decode cX12_quorum 158 = .ok (.goto 4, 3) := by decide +kernel
theorem dX12_quorum_161 : decode cX12_quorum 161 = .ok (.iconst 0, 1) := by decide +kernel
theorem dX12_quorum_162 : decode cX12_quorum 162 = .ok (.iadd, 1) := by decide +kernel
theorem dX12_quorum_163 : decode cX12_quorum 163 = .ok (.istore 5, 2) := by decide +kernel
theorem dX12_quorum_165 : decode cX12_quorum 165 = .ok (.iinc 6 1, 3) := by decide +kernel
theorem dX12_quorum_168 : decode cX12_quorum 168 = .ok (.goto (-109), 3) := by decide +kernel
theorem dX12_quorum_171 : decode cX12_quorum 171 = .ok (.iload_n 2, 1) := by decide +kernel
theorem dX12_quorum_172 : decode cX12_quorum 172 = .ok (.ifCond .ne 8, 3) := by decide +kernel
theorem dX12_quorum_175 : decode cX12_quorum 175 = .ok (.iload 4, 2) := by decide +kernel
theorem dX12_quorum_177 : decode cX12_quorum 177 = .ok (.goto 5, 3) := by decide +kernel
theorem dX12_quorum_180 : decode cX12_quorum 180 = .ok (.iload 5, 2) := by decide +kernel
theorem dX12_quorum_182 : decode cX12_quorum 182 = .ok (.ireturn, 1) := by decide +kernel
theorem dX12_least_0 : decode cX12_least 0 = .ok (.lload_n 0, 1) := by decide +kernel
theorem dX12_least_1 : decode cX12_least 1 = .ok (.lstore 5, 2) := by decide +kernel
theorem dX12_least_3 : decode cX12_least 3 = .ok (.lload_n 2, 1) := by decide +kernel
theorem dX12_least_4 : decode cX12_least 4 = .ok (.lstore 7, 2) := by decide +kernel
theorem dX12_least_6 : decode cX12_least 6 = .ok (.lload 7, 2) := by decide +kernel
theorem dX12_least_8 : decode cX12_least 8 = .ok (.lconst 0, 1) := by decide +kernel
theorem dX12_least_9 : decode cX12_least 9 = .ok (.lcmp, 1) := by decide +kernel
theorem dX12_least_10 : decode cX12_least 10 = .ok (.ifCond .eq 21, 3) := by decide +kernel
theorem dX12_least_13 : decode cX12_least 13 = .ok (.lload 5, 2) := by decide +kernel
theorem dX12_least_15 : decode cX12_least 15 = .ok (.lload 7, 2) := by decide +kernel
theorem dX12_least_17 : decode cX12_least 17 = .ok (.lrem, 1) := by decide +kernel
theorem dX12_least_18 : decode cX12_least 18 = .ok (.lstore 9, 2) := by decide +kernel
theorem dX12_least_20 : decode cX12_least 20 = .ok (.lload 7, 2) := by decide +kernel
theorem dX12_least_22 : decode cX12_least 22 = .ok (.lstore 5, 2) := by decide +kernel
theorem dX12_least_24 : decode cX12_least 24 = .ok (.lload 9, 2) := by decide +kernel
theorem dX12_least_26 : decode cX12_least 26 = .ok (.lstore 7, 2) := by decide +kernel
theorem dX12_least_28 : decode cX12_least 28 = .ok (.goto (-22), 3) := by decide +kernel
theorem dX12_least_31 : decode cX12_least 31 = .ok (.iload 4, 2) := by decide +kernel
theorem dX12_least_33 : decode cX12_least 33 = .ok (.ifCond .ne 7, 3) := by decide +kernel
theorem dX12_least_36 : decode cX12_least 36 = .ok (.lload_n 0, 1) := by decide +kernel
theorem dX12_least_37 : decode cX12_least 37 = .ok (.goto 4, 3) := by decide +kernel
theorem dX12_least_40 : decode cX12_least 40 = .ok (.lload_n 2, 1) := by decide +kernel
theorem dX12_least_41 : decode cX12_least 41 = .ok (.lload 5, 2) := by decide +kernel
theorem dX12_least_43 : decode cX12_least 43 = .ok (.ldiv, 1) := by decide +kernel
theorem dX12_least_44 : decode cX12_least 44 = .ok (.lreturn, 1) := by decide +kernel
theorem dX12_lies_0 : decode cX12_lies 0 = .ok (.aload_n 0, 1) := by decide +kernel
theorem dX12_lies_1 : decode cX12_lies 1 = .ok (.iconst 0, 1) := by decide +kernel
theorem dX12_lies_2 : decode cX12_lies 2 = .ok (.putfield 3, 3) := by decide +kernel
theorem dX12_lies_5 : decode cX12_lies 5 = .ok (.aload_n 0, 1) := by decide +kernel
theorem dX12_lies_6 : decode cX12_lies 6 = .ok (.iload_n 1, 1) := by decide +kernel
theorem dX12_lies_7 : decode cX12_lies 7 = .ok (.iconst 0, 1) := by decide +kernel
theorem dX12_lies_8 : decode cX12_lies 8 = .ok (.bipush 12, 2) := by decide +kernel
theorem dX12_lies_10 : decode cX12_lies 10 = .ok (.invokestatic 373, 3) := by decide +kernel
theorem dX12_lies_13 : decode cX12_lies 13 = .ok (.ifCond .eq 37, 3) := by decide +kernel
theorem dX12_lies_16 : decode cX12_lies 16 = .ok (.iload_n 2, 1) := by decide +kernel
theorem dX12_lies_17 : decode cX12_lies 17 = .ok (.iconst 0, 1) := by decide +kernel
theorem dX12_lies_18 : decode cX12_lies 18 = .ok (.bipush 13, 2) := by decide +kernel
theorem dX12_lies_20 : decode cX12_lies 20 = .ok (.invokestatic 373, 3) := by decide +kernel
theorem dX12_lies_23 : decode cX12_lies 23 = .ok (.ifCond .eq 27, 3) := by decide +kernel
theorem dX12_lies_26 : decode cX12_lies 26 = .ok (.iload_n 3, 1) := by decide +kernel
theorem dX12_lies_27 : decode cX12_lies 27 = .ok (.iconst 0, 1) := by decide +kernel
theorem dX12_lies_28 : decode cX12_lies 28 = .ok (.bipush 16, 2) := by decide +kernel
theorem dX12_lies_30 : decode cX12_lies 30 = .ok (.invokestatic 373, 3) := by decide +kernel
theorem dX12_lies_33 : decode cX12_lies 33 = .ok (.ifCond .eq 17, 3) := by decide +kernel
theorem dX12_lies_36 : decode cX12_lies 36 = .ok (.iload 4, 2) := by decide +kernel
theorem dX12_lies_38 : decode cX12_lies 38 = .ok (.iconst 0, 1) := by decide +kernel
theorem dX12_lies_39 : decode cX12_lies 39 = .ok (.iconst 1, 1) := by decide +kernel
theorem dX12_lies_40 : decode cX12_lies 40 = .ok (.invokestatic 373, 3) := by decide +kernel
theorem dX12_lies_43 : decode cX12_lies 43 = .ok (.ifCond .eq 7, 3) := by decide +kernel
theorem dX12_lies_46 : decode cX12_lies 46 = .ok (.iconst 1, 1) := by decide +kernel
theorem dX12_lies_47 : decode cX12_lies 47 = .ok (.goto 4, 3) := by decide +kernel
theorem dX12_lies_50 : decode cX12_lies 50 = .ok (.iconst 0, 1) := by decide +kernel
theorem dX12_lies_51 : decode cX12_lies 51 = .ok (.iconst 1, 1) := by decide +kernel
theorem dX12_lies_52 : decode cX12_lies 52 = .ok (.iconst 1, 1) := by decide +kernel
theorem dX12_lies_53 : decode cX12_lies 53 = .ok (.invokevirtual 192, 3) := by decide +kernel
theorem dX12_lies_56 : decode cX12_lies 56 = .ok (.ifCond .ne 5, 3) := by decide +kernel
theorem dX12_lies_59 : decode cX12_lies 59 = .ok (.lconst 0, 1) := by decide +kernel
theorem dX12_lies_60 : decode cX12_lies 60 = .ok (.lreturn, 1) := by decide +kernel
theorem dX12_lies_61 : decode cX12_lies 61 = .ok (.iconst 0, 1) := by decide +kernel
theorem dX12_lies_62 : decode cX12_lies 62 = .ok (.istore 5, 2) := by decide +kernel
theorem dX12_lies_64 : decode cX12_lies 64 = .ok (.iload 5, 2) := by decide +kernel
theorem dX12_lies_66 : decode cX12_lies 66 = .ok (.bipush 14, 2) := by decide +kernel
theorem dX12_lies_68 : decode cX12_lies 68 = .ok (.if_icmp .ge 26, 3) := by decide +kernel
theorem dX12_lies_71 : decode cX12_lies 71 = .ok (.aload_n 0, 1) := by decide +kernel
theorem dX12_lies_72 : decode cX12_lies 72 = .ok (.getfield 86, 3) := by decide +kernel
theorem dX12_lies_75 : decode cX12_lies 75 = .ok (.iload 5, 2) := by decide +kernel
theorem dX12_lies_77 : decode cX12_lies 77 = .ok (.iload 5, 2) := by decide +kernel
theorem dX12_lies_79 : decode cX12_lies 79 = .ok (.ifCond .ne 7, 3) := by decide +kernel
theorem dX12_lies_82 : decode cX12_lies 82 = .ok (.lconst 1, 1) := by decide +kernel
theorem dX12_lies_83 : decode cX12_lies 83 = .ok (.goto 4, 3) := by decide +kernel
theorem dX12_lies_86 : decode cX12_lies 86 = .ok (.lconst 0, 1) := by decide +kernel
theorem dX12_lies_87 : decode cX12_lies 87 = .ok (.lastore, 1) := by decide +kernel
theorem dX12_lies_88 : decode cX12_lies 88 = .ok (.iinc 5 1, 3) := by decide +kernel
theorem dX12_lies_91 : decode cX12_lies 91 = .ok (.goto (-27), 3) := by decide +kernel
theorem dX12_lies_94 : decode cX12_lies 94 = .ok (.lconst 1, 1) := by decide +kernel
theorem dX12_lies_95 : decode cX12_lies 95 = .ok (.lstore 5, 2) := by decide +kernel
theorem dX12_lies_97 : decode cX12_lies 97 = .ok (.iconst 0, 1) := by decide +kernel
theorem dX12_lies_98 : decode cX12_lies 98 = .ok (.istore 7, 2) := by decide +kernel
theorem dX12_lies_100 : decode cX12_lies 100 = .ok (.iload 7, 2) := by decide +kernel
theorem dX12_lies_102 : decode cX12_lies 102 = .ok (.iload_n 1, 1) := by decide +kernel
theorem dX12_lies_103 : decode cX12_lies 103 = .ok (.if_icmp .ge 74, 3) := by decide +kernel
theorem dX12_lies_106 : decode cX12_lies 106 = .ok (.bipush 13, 2) := by decide +kernel
theorem dX12_lies_108 : decode cX12_lies 108 = .ok (.istore 8, 2) := by decide +kernel
theorem dX12_lies_110 : decode cX12_lies 110 = .ok (.iload 8, 2) := by decide +kernel
theorem dX12_lies_112 : decode cX12_lies 112 = .ok (.ifCond .lt 51, 3) := by decide +kernel
theorem dX12_lies_115 : decode cX12_lies 115 = .ok (.aload_n 0, 1) := by decide +kernel
theorem dX12_lies_116 : decode cX12_lies 116 = .ok (.getfield 86, 3) := by decide +kernel
theorem dX12_lies_119 : decode cX12_lies 119 = .ok (.iload 8, 2) := by decide +kernel
theorem dX12_lies_121 : decode cX12_lies 121 = .ok (.aload_n 0, 1) := by decide +kernel
theorem dX12_lies_122 : decode cX12_lies 122 = .ok (.getfield 86, 3) := by decide +kernel
theorem dX12_lies_125 : decode cX12_lies 125 = .ok (.iload 8, 2) := by decide +kernel
theorem dX12_lies_127 : decode cX12_lies 127 = .ok (.laload, 1) := by decide +kernel
theorem dX12_lies_128 : decode cX12_lies 128 = .ok (.bipush 16, 2) := by decide +kernel
theorem dX12_lies_130 : decode cX12_lies 130 = .ok (.iload_n 3, 1) := by decide +kernel
theorem dX12_lies_131 : decode cX12_lies 131 = .ok (.isub, 1) := by decide +kernel
theorem dX12_lies_132 : decode cX12_lies 132 = .ok (.i2l, 1) := by decide +kernel
theorem dX12_lies_133 : decode cX12_lies 133 = .ok (.lmul, 1) := by decide +kernel
theorem dX12_lies_134 : decode cX12_lies 134 = .ok (.iload 8, 2) := by decide +kernel
theorem dX12_lies_136 : decode cX12_lies 136 = .ok (.ifCond .le 18, 3) := by decide +kernel
theorem dX12_lies_139 : decode cX12_lies 139 = .ok (.aload_n 0, 1) := by decide +kernel
theorem dX12_lies_140 : decode cX12_lies 140 = .ok (.getfield 86, 3) := by decide +kernel
theorem dX12_lies_143 : decode cX12_lies 143 = .ok (.iload 8, 2) := by decide +kernel
theorem dX12_lies_145 : decode cX12_lies 145 = .ok (.iconst 1, 1) := by decide +kernel
theorem dX12_lies_146 : decode cX12_lies 146 = .ok (.isub, 1) := by decide +kernel
theorem dX12_lies_147 : decode cX12_lies 147 = .ok (.laload, 1) := by decide +kernel
theorem dX12_lies_148 : decode cX12_lies 148 = .ok (.iload_n 3, 1) := by decide +kernel
theorem dX12_lies_149 : decode cX12_lies 149 = .ok (.i2l, 1) := by decide +kernel
theorem dX12_lies_150 : decode cX12_lies 150 = .ok (.lmul, 1) := by decide +kernel
theorem dX12_lies_151 : decode cX12_lies 151 = .ok (.goto 4, 3) := by decide +kernel
theorem dX12_lies_154 : decode cX12_lies 154 = .ok (.lconst 0, 1) := by decide +kernel
theorem dX12_lies_155 : decode cX12_lies 155 = .ok (.ladd, 1) := by decide +kernel
theorem dX12_lies_156 : decode cX12_lies 156 = .ok (.lastore, 1) := by decide +kernel
theorem dX12_lies_157 : decode cX12_lies 157 = .ok (.iinc 8 (-1), 3) := by decide +kernel
theorem dX12_lies_160 : decode cX12_lies 160 = .ok (.goto (-50), 3) := by decide +kernel
theorem dX12_lies_163 : decode cX12_lies 163 = .ok (.lload 5, 2) := by decide +kernel
theorem dX12_lies_165 : decode cX12_lies 165 = .ok (.ldc2_w 431, 3) := by decide +kernel
theorem dX12_lies_168 : decode cX12_lies 168 = .ok (.lmul, 1) := by decide +kernel
theorem dX12_lies_169 : decode cX12_lies 169 = .ok (.lstore 5, 2) := by decide +kernel
theorem dX12_lies_171 : decode cX12_lies 171 = .ok (.iinc 7 1, 3) := by decide +kernel
theorem dX12_lies_174 : decode cX12_lies 174 = .ok (.goto (-74), 3) := by decide +kernel
theorem dX12_lies_177 : decode cX12_lies 177 = .ok (.lconst 0, 1) := by decide +kernel
theorem dX12_lies_178 : decode cX12_lies 178 = .ok (.lstore 7, 2) := by decide +kernel
theorem dX12_lies_180 : decode cX12_lies 180 = .ok (.iload_n 2, 1) := by decide +kernel
theorem dX12_lies_181 : decode cX12_lies 181 = .ok (.istore 9, 2) := by decide +kernel
theorem dX12_lies_183 : decode cX12_lies 183 = .ok (.iload 9, 2) := by decide +kernel
theorem dX12_lies_185 : decode cX12_lies 185 = .ok (.bipush 14, 2) := by decide +kernel
theorem dX12_lies_187 : decode cX12_lies 187 = .ok (.if_icmp .ge 21, 3) := by decide +kernel
theorem dX12_lies_190 : decode cX12_lies 190 = .ok (.lload 7, 2) := by decide +kernel
theorem dX12_lies_192 : decode cX12_lies 192 = .ok (.aload_n 0, 1) := by decide +kernel
theorem dX12_lies_193 : decode cX12_lies 193 = .ok (.getfield 86, 3) := by decide +kernel
theorem dX12_lies_196 : decode cX12_lies 196 = .ok (.iload 9, 2) := by decide +kernel
theorem dX12_lies_198 : decode cX12_lies 198 = .ok (.laload, 1) := by decide +kernel
theorem dX12_lies_199 : decode cX12_lies 199 = .ok (.ladd, 1) := by decide +kernel
theorem dX12_lies_200 : decode cX12_lies 200 = .ok (.lstore 7, 2) := by decide +kernel
theorem dX12_lies_202 : decode cX12_lies 202 = .ok (.iinc 9 1, 3) := by decide +kernel
theorem dX12_lies_205 : decode cX12_lies 205 = .ok (.goto (-22), 3) := by decide +kernel
theorem dX12_lies_208 : decode cX12_lies 208 = .ok (.lload 7, 2) := by decide +kernel
theorem dX12_lies_210 : decode cX12_lies 210 = .ok (.lload 5, 2) := by decide +kernel
theorem dX12_lies_212 : decode cX12_lies 212 = .ok (.iload 4, 2) := by decide +kernel
theorem dX12_lies_214 : decode cX12_lies 214 = .ok (.invokestatic 433, 3) := by decide +kernel
theorem dX12_lies_217 : decode cX12_lies 217 = .ok (.lreturn, 1) := by decide +kernel
theorem dX12_hasBy_0 : decode cX12_hasBy 0 = .ok (.iload_n 0, 1) := by decide +kernel
theorem dX12_hasBy_1 : decode cX12_hasBy 1 = .ok (.iload_n 1, 1) := by decide +kernel
theorem dX12_hasBy_2 : decode cX12_hasBy 2 = .ok (.if_icmp .ne 7, 3) := by decide +kernel
theorem dX12_hasBy_5 : decode cX12_hasBy 5 = .ok (.iconst 0, 1) := by decide +kernel
theorem dX12_hasBy_6 : decode cX12_hasBy 6 = .ok (.goto 13, 3) := by decide +kernel
theorem dX12_hasBy_9 : decode cX12_hasBy 9 = .ok (.iload_n 0, 1) := by decide +kernel
theorem dX12_hasBy_10 : decode cX12_hasBy 10 = .ok (.ifCond .ne 7, 3) := by decide +kernel
theorem dX12_hasBy_13 : decode cX12_hasBy 13 = .ok (.iload_n 2, 1) := by decide +kernel
theorem dX12_hasBy_14 : decode cX12_hasBy 14 = .ok (.goto 5, 3) := by decide +kernel
theorem dX12_hasBy_17 : decode cX12_hasBy 17 = .ok (.iload_n 3, 1) := by decide +kernel
theorem dX12_hasBy_18 : decode cX12_hasBy 18 = .ok (.ineg, 1) := by decide +kernel
theorem dX12_hasBy_19 : decode cX12_hasBy 19 = .ok (.ireturn, 1) := by decide +kernel
theorem dX12_kneel_0 : decode cX12_kneel 0 = .ok (.aload_n 0, 1) := by decide +kernel
theorem dX12_kneel_1 : decode cX12_kneel 1 = .ok (.iconst 0, 1) := by decide +kernel
theorem dX12_kneel_2 : decode cX12_kneel 2 = .ok (.putfield 3, 3) := by decide +kernel
theorem dX12_kneel_5 : decode cX12_kneel 5 = .ok (.aload_n 0, 1) := by decide +kernel
theorem dX12_kneel_6 : decode cX12_kneel 6 = .ok (.iload_n 1, 1) := by decide +kernel
theorem dX12_kneel_7 : decode cX12_kneel 7 = .ok (.iconst 0, 1) := by decide +kernel
theorem dX12_kneel_8 : decode cX12_kneel 8 = .ok (.bipush 99, 2) := by decide +kernel
theorem dX12_kneel_10 : decode cX12_kneel 10 = .ok (.invokestatic 373, 3) := by decide +kernel
theorem dX12_kneel_13 : decode cX12_kneel 13 = .ok (.ifCond .eq 26, 3) := by decide +kernel
theorem dX12_kneel_16 : decode cX12_kneel 16 = .ok (.iload_n 2, 1) := by decide +kernel
theorem dX12_kneel_17 : decode cX12_kneel 17 = .ok (.iconst 0, 1) := by decide +kernel
theorem dX12_kneel_18 : decode cX12_kneel 18 = .ok (.bipush 99, 2) := by decide +kernel
theorem dX12_kneel_20 : decode cX12_kneel 20 = .ok (.invokestatic 373, 3) := by decide +kernel
theorem dX12_kneel_23 : decode cX12_kneel 23 = .ok (.ifCond .eq 16, 3) := by decide +kernel
theorem dX12_kneel_26 : decode cX12_kneel 26 = .ok (.iload_n 3, 1) := by decide +kernel
theorem dX12_kneel_27 : decode cX12_kneel 27 = .ok (.iconst 0, 1) := by decide +kernel
theorem dX12_kneel_28 : decode cX12_kneel 28 = .ok (.iconst 2, 1) := by decide +kernel
theorem dX12_kneel_29 : decode cX12_kneel 29 = .ok (.invokestatic 373, 3) := by decide +kernel
theorem dX12_kneel_32 : decode cX12_kneel 32 = .ok (.ifCond .eq 7, 3) := by decide +kernel
theorem dX12_kneel_35 : decode cX12_kneel 35 = .ok (.iconst 1, 1) := by decide +kernel
theorem dX12_kneel_36 : decode cX12_kneel 36 = .ok (.goto 4, 3) := by decide +kernel
theorem dX12_kneel_39 : decode cX12_kneel 39 = .ok (.iconst 0, 1) := by decide +kernel
theorem dX12_kneel_40 : decode cX12_kneel 40 = .ok (.iconst 1, 1) := by decide +kernel
theorem dX12_kneel_41 : decode cX12_kneel 41 = .ok (.iconst 1, 1) := by decide +kernel
theorem dX12_kneel_42 : decode cX12_kneel 42 = .ok (.invokevirtual 192, 3) := by decide +kernel
theorem dX12_kneel_45 : decode cX12_kneel 45 = .ok (.ifCond .ne 5, 3) := by decide +kernel
theorem dX12_kneel_48 : decode cX12_kneel 48 = .ok (.iconst 0, 1) := by decide +kernel
theorem dX12_kneel_49 : decode cX12_kneel 49 = .ok (.ireturn, 1) := by decide +kernel
theorem dX12_kneel_50 : decode cX12_kneel 50 = .ok (.iconst 0, 1) := by decide +kernel
theorem dX12_kneel_51 : decode cX12_kneel 51 = .ok (.istore 4, 2) := by decide +kernel
theorem dX12_kneel_53 : decode cX12_kneel 53 = .ok (.iconst (-1), 1) := by decide +kernel
theorem dX12_kneel_54 : decode cX12_kneel 54 = .ok (.istore 5, 2) := by decide +kernel
theorem dX12_kneel_56 : decode cX12_kneel 56 = .ok (.iconst 0, 1) := by decide +kernel
theorem dX12_kneel_57 : decode cX12_kneel 57 = .ok (.istore 6, 2) := by decide +kernel
theorem dX12_kneel_59 : decode cX12_kneel 59 = .ok (.iload 6, 2) := by decide +kernel
theorem dX12_kneel_61 : decode cX12_kneel 61 = .ok (.iconst 4, 1) := by decide +kernel
theorem dX12_kneel_62 : decode cX12_kneel 62 = .ok (.if_icmp .ge 94, 3) := by decide +kernel
theorem dX12_kneel_65 : decode cX12_kneel 65 = .ok (.iload 6, 2) := by decide +kernel
theorem dX12_kneel_67 : decode cX12_kneel 67 = .ok (.iconst 2, 1) := by decide +kernel
theorem dX12_kneel_68 : decode cX12_kneel 68 = .ok (.idiv, 1) := by decide +kernel
theorem dX12_kneel_69 : decode cX12_kneel 69 = .ok (.istore 7, 2) := by decide +kernel
theorem dX12_kneel_71 : decode cX12_kneel 71 = .ok (.iload 6, 2) := by decide +kernel
theorem dX12_kneel_73 : decode cX12_kneel 73 = .ok (.iconst 2, 1) := by decide +kernel
theorem dX12_kneel_74 : decode cX12_kneel 74 = .ok (.irem, 1) := by decide +kernel
theorem dX12_kneel_75 : decode cX12_kneel 75 = .ok (.istore 8, 2) := by decide +kernel
theorem dX12_kneel_77 : decode cX12_kneel 77 = .ok (.iconst 1, 1) := by decide +kernel
theorem dX12_kneel_78 : decode cX12_kneel 78 = .ok (.iload 7, 2) := by decide +kernel
theorem dX12_kneel_80 : decode cX12_kneel 80 = .ok (.isub, 1) := by decide +kernel
theorem dX12_kneel_81 : decode cX12_kneel 81 = .ok (.iload 8, 2) := by decide +kernel
theorem dX12_kneel_83 : decode cX12_kneel 83 = .ok (.iload_n 1, 1) := by decide +kernel
theorem dX12_kneel_84 : decode cX12_kneel 84 = .ok (.iload_n 2, 1) := by decide +kernel
theorem dX12_kneel_85 : decode cX12_kneel 85 = .ok (.invokestatic 436, 3) := by decide +kernel
theorem dX12_kneel_88 : decode cX12_kneel 88 = .ok (.iload 7, 2) := by decide +kernel
theorem dX12_kneel_90 : decode cX12_kneel 90 = .ok (.iload 8, 2) := by decide +kernel
theorem dX12_kneel_92 : decode cX12_kneel 92 = .ok (.iload_n 1, 1) := by decide +kernel
theorem dX12_kneel_93 : decode cX12_kneel 93 = .ok (.iload_n 2, 1) := by decide +kernel
theorem dX12_kneel_94 : decode cX12_kneel 94 = .ok (.invokestatic 436, 3) := by decide +kernel
theorem dX12_kneel_97 : decode cX12_kneel 97 = .ok (.if_icmp .gt 53, 3) := by decide +kernel
theorem dX12_kneel_100 : decode cX12_kneel 100 = .ok (.iconst 1, 1) := by decide +kernel
theorem dX12_kneel_101 : decode cX12_kneel 101 = .ok (.iload 8, 2) := by decide +kernel
theorem dX12_kneel_103 : decode cX12_kneel 103 = .ok (.isub, 1) := by decide +kernel
theorem dX12_kneel_104 : decode cX12_kneel 104 = .ok (.iload 7, 2) := by decide +kernel
theorem dX12_kneel_106 : decode cX12_kneel 106 = .ok (.iload_n 1, 1) := by decide +kernel
theorem dX12_kneel_107 : decode cX12_kneel 107 = .ok (.iload_n 2, 1) := by decide +kernel
theorem dX12_kneel_108 : decode cX12_kneel 108 = .ok (.invokestatic 436, 3) := by decide +kernel
theorem dX12_kneel_111 : decode cX12_kneel 111 = .ok (.iload 8, 2) := by decide +kernel
theorem dX12_kneel_113 : decode cX12_kneel 113 = .ok (.iload 7, 2) := by decide +kernel
theorem dX12_kneel_115 : decode cX12_kneel 115 = .ok (.iload_n 1, 1) := by decide +kernel
theorem dX12_kneel_116 : decode cX12_kneel 116 = .ok (.iload_n 2, 1) := by decide +kernel
theorem dX12_kneel_117 : decode cX12_kneel 117 = .ok (.invokestatic 436, 3) := by decide +kernel
theorem dX12_kneel_120 : decode cX12_kneel 120 = .ok (.if_icmp .le 6, 3) := by decide +kernel
theorem dX12_kneel_123 : decode cX12_kneel 123 = .ok (.goto 27, 3) := by decide +kernel
theorem dX12_kneel_126 : decode cX12_kneel 126 = .ok (.iinc 4 1, 3) := by decide +kernel
theorem dX12_kneel_129 : decode cX12_kneel 129 = .ok (.iload 5, 2) := by decide +kernel
theorem dX12_kneel_131 : decode cX12_kneel 131 = .ok (.iconst (-1), 1) := by decide +kernel
theorem dX12_kneel_132 : decode cX12_kneel 132 = .ok (.if_icmp .ne 14, 3) := by decide +kernel
theorem dX12_kneel_135 : decode cX12_kneel 135 = .ok (.bipush 10, 2) := by decide +kernel
theorem dX12_kneel_137 : decode cX12_kneel 137 = .ok (.iload 7, 2) := by decide +kernel
theorem dX12_kneel_139 : decode cX12_kneel 139 = .ok (.imul, 1) := by decide +kernel
theorem dX12_kneel_140 : decode cX12_kneel 140 = .ok (.iload 8, 2) := by decide +kernel
theorem dX12_kneel_142 : decode cX12_kneel 142 = .ok (.iadd, 1) := by decide +kernel
theorem dX12_kneel_143 : decode cX12_kneel 143 = .ok (.goto 5, 3) := by decide +kernel
theorem dX12_kneel_146 : decode cX12_kneel 146 = .ok (.iload 5, 2) := by decide +kernel
theorem dX12_kneel_148 : decode cX12_kneel 148 = .ok (.istore 5, 2) := by decide +kernel
theorem dX12_kneel_150 : decode cX12_kneel 150 = .ok (.iinc 6 1, 3) := by decide +kernel
theorem dX12_kneel_153 : decode cX12_kneel 153 = .ok (.goto (-94), 3) := by decide +kernel
theorem dX12_kneel_156 : decode cX12_kneel 156 = .ok (.iload_n 3, 1) := by decide +kernel
theorem dX12_kneel_157 : decode cX12_kneel 157 = .ok (.ifCond .ne 8, 3) := by decide +kernel
end Dec
