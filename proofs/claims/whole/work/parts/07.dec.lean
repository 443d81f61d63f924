/-! decode rows: X8 -/
theorem dX8_init_0 : decode cX8_init 0 = .ok (.aload_n 0, 1) := by decide +kernel
theorem dX8_init_1 : decode cX8_init 1 = .ok (.invokespecial 1, 3) := by decide +kernel
theorem dX8_init_4 : decode cX8_init 4 = .ok (.aload_n 0, 1) := by decide +kernel
theorem dX8_init_5 : decode cX8_init 5 = .ok (.sipush 396, 3) := by decide +kernel
theorem dX8_init_8 : decode cX8_init 8 = .ok (.newarray .int, 2) := by decide +kernel
theorem dX8_init_10 : decode cX8_init 10 = .ok (.putfield 7, 3) := by decide +kernel
theorem dX8_init_13 : decode cX8_init 13 = .ok (.aload_n 0, 1) := by decide +kernel
theorem dX8_init_14 : decode cX8_init 14 = .ok (.bipush 16, 2) := by decide +kernel
theorem dX8_init_16 : decode cX8_init 16 = .ok (.newarray .int, 2) := by decide +kernel
theorem dX8_init_18 : decode cX8_init 18 = .ok (.putfield 13, 3) := by decide +kernel
theorem dX8_init_21 : decode cX8_init 21 = .ok (.aload_n 0, 1) := by decide +kernel
theorem dX8_init_22 : decode cX8_init 22 = .ok (.bipush 16, 2) := by decide +kernel
theorem dX8_init_24 : decode cX8_init 24 = .ok (.newarray .int, 2) := by decide +kernel
theorem dX8_init_26 : decode cX8_init 26 = .ok (.putfield 16, 3) := by decide +kernel
theorem dX8_init_29 : decode cX8_init 29 = .ok (.aload_n 0, 1) := by decide +kernel
theorem dX8_init_30 : decode cX8_init 30 = .ok (.iconst 2, 1) := by decide +kernel
theorem dX8_init_31 : decode cX8_init 31 = .ok (.newarray .boolean, 2) := by decide +kernel
theorem dX8_init_33 : decode cX8_init 33 = .ok (.putfield 19, 3) := by decide +kernel
theorem dX8_init_36 : decode cX8_init 36 = .ok (.aload_n 0, 1) := by decide +kernel
theorem dX8_init_37 : decode cX8_init 37 = .ok (.sipush 200, 3) := by decide +kernel
theorem dX8_init_40 : decode cX8_init 40 = .ok (.newarray .int, 2) := by decide +kernel
theorem dX8_init_42 : decode cX8_init 42 = .ok (.putfield 23, 3) := by decide +kernel
theorem dX8_init_45 : decode cX8_init 45 = .ok (.aload_n 0, 1) := by decide +kernel
theorem dX8_init_46 : decode cX8_init 46 = .ok (.iconst 3, 1) := by decide +kernel
theorem dX8_init_47 : decode cX8_init 47 = .ok (.newarray .int, 2) := by decide +kernel
theorem dX8_init_49 : decode cX8_init 49 = .ok (.putfield 26, 3) := by decide +kernel
theorem dX8_init_52 : decode cX8_init 52 = .ok (.aload_n 0, 1) := by decide +kernel
theorem dX8_init_53 : decode cX8_init 53 = .ok (.iconst 3, 1) := by decide +kernel
theorem dX8_init_54 : decode cX8_init 54 = .ok (.newarray .int, 2) := by decide +kernel
theorem dX8_init_56 : decode cX8_init 56 = .ok (.dup, 1) := by decide +kernel
theorem dX8_init_57 : decode cX8_init 57 = .ok (.iconst 0, 1) := by decide +kernel
theorem dX8_init_58 : decode cX8_init 58 = .ok (.iconst (-1), 1) := by decide +kernel
theorem dX8_init_59 : decode cX8_init 59 = .ok (.iastore, 1) := by decide +kernel
theorem dX8_init_60 : decode cX8_init 60 = .ok (.dup, 1) := by decide +kernel
theorem dX8_init_61 : decode cX8_init 61 = .ok (.iconst 1, 1) := by decide +kernel
theorem dX8_init_62 : decode cX8_init 62 = .ok (.iconst (-1), 1) := by decide +kernel
theorem dX8_init_63 : decode cX8_init 63 = .ok (.iastore, 1) := by decide +kernel
theorem dX8_init_64 : decode cX8_init 64 = .ok (.dup, 1) := by decide +kernel
theorem dX8_init_65 : decode cX8_init 65 = .ok (.iconst 2, 1) := by decide +kernel
theorem dX8_init_66 : decode cX8_init 66 = .ok (.iconst (-1), 1) := by decide +kernel
theorem dX8_init_67 : decode cX8_init 67 = .ok (.iastore, 1) := by decide +kernel
theorem dX8_init_68 : decode cX8_init 68 = .ok (.putfield 29, 3) := by decide +kernel
theorem dX8_init_71 : decode cX8_init 71 = .ok (.aload_n 0, 1) := by decide +kernel
theorem dX8_init_72 : decode cX8_init 72 = .ok (.bipush 24, 2) := by decide +kernel
theorem dX8_init_74 : decode cX8_init 74 = .ok (.newarray .float, 2) := by decide +kernel
theorem dX8_init_76 : decode cX8_init 76 = .ok (.putfield 32, 3) := by decide +kernel
theorem dX8_init_79 : decode cX8_init 79 = .ok (.aload_n 0, 1) := by decide +kernel
theorem dX8_init_80 : decode cX8_init 80 = .ok (.bipush 24, 2) := by decide +kernel
theorem dX8_init_82 : decode cX8_init 82 = .ok (.newarray .double, 2) := by decide +kernel
theorem dX8_init_84 : decode cX8_init 84 = .ok (.putfield 36, 3) := by decide +kernel
theorem dX8_init_87 : decode cX8_init 87 = .ok (.aload_n 0, 1) := by decide +kernel
theorem dX8_init_88 : decode cX8_init 88 = .ok (.iconst 4, 1) := by decide +kernel
theorem dX8_init_89 : decode cX8_init 89 = .ok (.newarray .int, 2) := by decide +kernel
theorem dX8_init_91 : decode cX8_init 91 = .ok (.putfield 40, 3) := by decide +kernel
theorem dX8_init_94 : decode cX8_init 94 = .ok (.aload_n 0, 1) := by decide +kernel
theorem dX8_init_95 : decode cX8_init 95 = .ok (.iconst 3, 1) := by decide +kernel
theorem dX8_init_96 : decode cX8_init 96 = .ok (.newarray .int, 2) := by decide +kernel
theorem dX8_init_98 : decode cX8_init 98 = .ok (.dup, 1) := by decide +kernel
theorem dX8_init_99 : decode cX8_init 99 = .ok (.iconst 0, 1) := by decide +kernel
theorem dX8_init_100 : decode cX8_init 100 = .ok (.bipush 110, 2) := by decide +kernel
theorem dX8_init_102 : decode cX8_init 102 = .ok (.iastore, 1) := by decide +kernel
theorem dX8_init_103 : decode cX8_init 103 = .ok (.dup, 1) := by decide +kernel
theorem dX8_init_104 : decode cX8_init 104 = .ok (.iconst 1, 1) := by decide +kernel
theorem dX8_init_105 : decode cX8_init 105 = .ok (.bipush 101, 2) := by decide +kernel
theorem dX8_init_107 : decode cX8_init 107 = .ok (.iastore, 1) := by decide +kernel
theorem dX8_init_108 : decode cX8_init 108 = .ok (.dup, 1) := by decide +kernel
theorem dX8_init_109 : decode cX8_init 109 = .ok (.iconst 2, 1) := by decide +kernel
theorem dX8_init_110 : decode cX8_init 110 = .ok (.bipush 116, 2) := by decide +kernel
theorem dX8_init_112 : decode cX8_init 112 = .ok (.iastore, 1) := by decide +kernel
theorem dX8_init_113 : decode cX8_init 113 = .ok (.putfield 43, 3) := by decide +kernel
theorem dX8_init_116 : decode cX8_init 116 = .ok (.aload_n 0, 1) := by decide +kernel
theorem dX8_init_117 : decode cX8_init 117 = .ok (.iconst 4, 1) := by decide +kernel
theorem dX8_init_118 : decode cX8_init 118 = .ok (.newarray .int, 2) := by decide +kernel
theorem dX8_init_120 : decode cX8_init 120 = .ok (.dup, 1) := by decide +kernel
theorem dX8_init_121 : decode cX8_init 121 = .ok (.iconst 0, 1) := by decide +kernel
theorem dX8_init_122 : decode cX8_init 122 = .ok (.bipush 112, 2) := by decide +kernel
theorem dX8_init_124 : decode cX8_init 124 = .ok (.iastore, 1) := by decide +kernel
theorem dX8_init_125 : decode cX8_init 125 = .ok (.dup, 1) := by decide +kernel
theorem dX8_init_126 : decode cX8_init 126 = .ok (.iconst 1, 1) := by decide +kernel
theorem dX8_init_127 : decode cX8_init 127 = .ok (.bipush 97, 2) := by decide +kernel
theorem dX8_init_129 : decode cX8_init 129 = .ok (.iastore, 1) := by decide +kernel
theorem dX8_init_130 : decode cX8_init 130 = .ok (.dup, 1) := by decide +kernel
theorem dX8_init_131 : decode cX8_init 131 = .ok (.iconst 2, 1) := by decide +kernel
theorem dX8_init_132 : decode cX8_init 132 = .ok (.bipush 116, 2) := by decide +kernel
theorem dX8_init_134 : decode cX8_init 134 = .ok (.iastore, 1) := by decide +kernel
theorem dX8_init_135 : decode cX8_init 135 = .ok (.dup, 1) := by decide +kernel
theorem dX8_init_136 : decode cX8_init 136 = .ok (.iconst 3, 1) := by decide +kernel
theorem dX8_init_137 : decode cX8_init 137 = .ok (.bipush 104, 2) := by decide +kernel
theorem dX8_init_139 : decode cX8_init 139 = .ok (.iastore, 1) := by decide +kernel
theorem dX8_init_140 : decode cX8_init 140 = .ok (.putfield 46, 3) := by decide +kernel
theorem dX8_init_143 : decode cX8_init 143 = .ok (.aload_n 0, 1) := by decide +kernel
theorem dX8_init_144 : decode cX8_init 144 = .ok (.iconst 5, 1) := by decide +kernel
theorem dX8_init_145 : decode cX8_init 145 = .ok (.newarray .int, 2) := by decide +kernel
theorem dX8_init_147 : decode cX8_init 147 = .ok (.dup, 1) := by decide +kernel
theorem dX8_init_148 : decode cX8_init 148 = .ok (.iconst 0, 1) := by decide +kernel
theorem dX8_init_149 : decode cX8_init 149 = .ok (.bipush 115, 2) := by decide +kernel
theorem dX8_init_151 : decode cX8_init 151 = .ok (.iastore, 1) := by decide +kernel
theorem dX8_init_152 : decode cX8_init 152 = .ok (.dup, 1) := by decide +kernel
theorem dX8_init_153 : decode cX8_init 153 = .ok (.iconst 1, 1) := by decide +kernel
theorem dX8_init_154 : decode cX8_init 154 = .ok (.bipush 101, 2) := by decide +kernel
theorem dX8_init_156 : decode cX8_init 156 = .ok (.iastore, 1) := by decide +kernel
theorem dX8_init_157 : decode cX8_init 157 = .ok (.dup, 1) := by decide +kernel
theorem dX8_init_158 : decode cX8_init 158 = .ok (.iconst 2, 1) := by decide +kernel
theorem dX8_init_159 : decode cX8_init 159 = .ok (.bipush 116, 2) := by decide +kernel
theorem dX8_init_161 : decode cX8_init 161 = .ok (.iastore, 1) := by decide +kernel
theorem dX8_init_162 : decode cX8_init 162 = .ok (.dup, 1) := by decide +kernel
theorem dX8_init_163 : decode cX8_init 163 = .ok (.iconst 3, 1) := by decide +kernel
theorem dX8_init_164 : decode cX8_init 164 = .ok (.bipush 117, 2) := by decide +kernel
theorem dX8_init_166 : decode cX8_init 166 = .ok (.iastore, 1) := by decide +kernel
theorem dX8_init_167 : decode cX8_init 167 = .ok (.dup, 1) := by decide +kernel
theorem dX8_init_168 : decode cX8_init 168 = .ok (.iconst 4, 1) := by decide +kernel
theorem dX8_init_169 : decode cX8_init 169 = .ok (.bipush 112, 2) := by decide +kernel
theorem dX8_init_171 : decode cX8_init 171 = .ok (.iastore, 1) := by decide +kernel
theorem dX8_init_172 : decode cX8_init 172 = .ok (.putfield 49, 3) := by decide +kernel
theorem dX8_init_175 : decode cX8_init 175 = .ok (.aload_n 0, 1) := by decide +kernel
theorem dX8_init_176 : decode cX8_init 176 = .ok (.iconst 4, 1) := by decide +kernel
theorem dX8_init_177 : decode cX8_init 177 = .ok (.newarray .int, 2) := by decide +kernel
theorem dX8_init_179 : decode cX8_init 179 = .ok (.dup, 1) := by decide +kernel
theorem dX8_init_180 : decode cX8_init 180 = .ok (.iconst 0, 1) := by decide +kernel
theorem dX8_init_181 : decode cX8_init 181 = .ok (.bipush 104, 2) := by decide +kernel
theorem dX8_init_183 : decode cX8_init 183 = .ok (.iastore, 1) := by decide +kernel
theorem dX8_init_184 : decode cX8_init 184 = .ok (.dup, 1) := by decide +kernel
theorem dX8_init_185 : decode cX8_init 185 = .ok (.iconst 1, 1) := by decide +kernel
theorem dX8_init_186 : decode cX8_init 186 = .ok (.bipush 111, 2) := by decide +kernel
theorem dX8_init_188 : decode cX8_init 188 = .ok (.iastore, 1) := by decide +kernel
theorem dX8_init_189 : decode cX8_init 189 = .ok (.dup, 1) := by decide +kernel
theorem dX8_init_190 : decode cX8_init 190 = .ok (.iconst 2, 1) := by decide +kernel
theorem dX8_init_191 : decode cX8_init 191 = .ok (.bipush 108, 2) := by decide +kernel
theorem dX8_init_193 : decode cX8_init 193 = .ok (.iastore, 1) := by decide +kernel
theorem dX8_init_194 : decode cX8_init 194 = .ok (.dup, 1) := by decide +kernel
theorem dX8_init_195 : decode cX8_init 195 = .ok (.iconst 3, 1) := by decide +kernel
theorem dX8_init_196 : decode cX8_init 196 = .ok (.bipush 100, 2) := by decide +kernel
theorem dX8_init_198 : decode cX8_init 198 = .ok (.iastore, 1) := by decide +kernel
theorem dX8_init_199 : decode cX8_init 199 = .ok (.putfield 52, 3) := by decide +kernel
theorem dX8_init_202 : decode cX8_init 202 = .ok (.aload_n 0, 1) := by decide +kernel
theorem dX8_init_203 : decode cX8_init 203 = .ok (.iconst 4, 1) := by decide +kernel
theorem dX8_init_204 : decode cX8_init 204 = .ok (.newarray .int, 2) := by decide +kernel
theorem dX8_init_206 : decode cX8_init 206 = .ok (.dup, 1) := by decide +kernel
theorem dX8_init_207 : decode cX8_init 207 = .ok (.iconst 0, 1) := by decide +kernel
theorem dX8_init_208 : decode cX8_init 208 = .ok (.bipush 115, 2) := by decide +kernel
theorem dX8_init_210 : decode cX8_init 210 = .ok (.iastore, 1) := by decide +kernel
theorem dX8_init_211 : decode cX8_init 211 = .ok (.dup, 1) := by decide +kernel
theorem dX8_init_212 : decode cX8_init 212 = .ok (.iconst 1, 1) := by decide +kernel
theorem dX8_init_213 : decode cX8_init 213 = .ok (.bipush 116, 2) := by decide +kernel
theorem dX8_init_215 : decode cX8_init 215 = .ok (.iastore, 1) := by decide +kernel
theorem dX8_init_216 : decode cX8_init 216 = .ok (.dup, 1) := by decide +kernel
theorem dX8_init_217 : decode cX8_init 217 = .ok (.iconst 2, 1) := by decide +kernel
theorem dX8_init_218 : decode cX8_init 218 = .ok (.bipush 101, 2) := by decide +kernel
theorem dX8_init_220 : decode cX8_init 220 = .ok (.iastore, 1) := by decide +kernel
theorem dX8_init_221 : decode cX8_init 221 = .ok (.dup, 1) := by decide +kernel
theorem dX8_init_222 : decode cX8_init 222 = .ok (.iconst 3, 1) := by decide +kernel
theorem dX8_init_223 : decode cX8_init 223 = .ok (.bipush 112, 2) := by decide +kernel
theorem dX8_init_225 : decode cX8_init 225 = .ok (.iastore, 1) := by decide +kernel
theorem dX8_init_226 : decode cX8_init 226 = .ok (.putfield 55, 3) := by decide +kernel
theorem dX8_init_229 : decode cX8_init 229 = .ok (.aload_n 0, 1) := by decide +kernel
theorem dX8_init_230 : decode cX8_init 230 = .ok (.bipush 6, 2) := by decide +kernel
theorem dX8_init_232 : decode cX8_init 232 = .ok (.newarray .int, 2) := by decide +kernel
theorem dX8_init_234 : decode cX8_init 234 = .ok (.dup, 1) := by decide +kernel
theorem dX8_init_235 : decode cX8_init 235 = .ok (.iconst 0, 1) := by decide +kernel
theorem dX8_init_236 : decode cX8_init 236 = .ok (.bipush 112, 2) := by decide +kernel
theorem dX8_init_238 : decode cX8_init 238 = .ok (.iastore, 1) := by decide +kernel
theorem dX8_init_239 : decode cX8_init 239 = .ok (.dup, 1) := by decide +kernel
theorem dX8_init_240 : decode cX8_init 240 = .ok (.iconst 1, 1) := by decide +kernel
theorem dX8_init_241 : decode cX8_init 241 = .ok (.bipush 101, 2) := by decide +kernel
theorem dX8_init_243 : decode cX8_init 243 = .ok (.iastore, 1) := by decide +kernel
theorem dX8_init_244 : decode cX8_init 244 = .ok (.dup, 1) := by decide +kernel
theorem dX8_init_245 : decode cX8_init 245 = .ok (.iconst 2, 1) := by decide +kernel
theorem dX8_init_246 : decode cX8_init 246 = .ok (.bipush 114, 2) := by decide +kernel
theorem dX8_init_248 : decode cX8_init 248 = .ok (.iastore, 1) := by decide +kernel
theorem dX8_init_249 : decode cX8_init 249 = .ok (.dup, 1) := by decide +kernel
theorem dX8_init_250 : decode cX8_init 250 = .ok (.iconst 3, 1) := by decide +kernel
theorem dX8_init_251 : decode cX8_init 251 = .ok (.bipush 105, 2) := by decide +kernel
theorem dX8_init_253 : decode cX8_init 253 = .ok (.iastore, 1) := by decide +kernel
theorem dX8_init_254 : decode cX8_init 254 = .ok (.dup, 1) := by decide +kernel
theorem dX8_init_255 : decode cX8_init 255 = .ok (.iconst 4, 1) := by decide +kernel
theorem dX8_init_256 : decode cX8_init 256 = .ok (.bipush 111, 2) := by decide +kernel
theorem dX8_init_258 : decode cX8_init 258 = .ok (.iastore, 1) := by decide +kernel
theorem dX8_init_259 : decode cX8_init 259 = .ok (.dup, 1) := by decide +kernel
theorem dX8_init_260 : decode cX8_init 260 = .ok (.iconst 5, 1) := by decide +kernel
theorem dX8_init_261 : decode cX8_init 261 = .ok (.bipush 100, 2) := by decide +kernel
theorem dX8_init_263 : decode cX8_init 263 = .ok (.iastore, 1) := by decide +kernel
theorem dX8_init_264 : decode cX8_init 264 = .ok (.putfield 58, 3) := by decide +kernel
theorem dX8_init_267 : decode cX8_init 267 = .ok (.aload_n 0, 1) := by decide +kernel
theorem dX8_init_268 : decode cX8_init 268 = .ok (.bipush 16, 2) := by decide +kernel
theorem dX8_init_270 : decode cX8_init 270 = .ok (.newarray .int, 2) := by decide +kernel
theorem dX8_init_272 : decode cX8_init 272 = .ok (.putfield 61, 3) := by decide +kernel
theorem dX8_init_275 : decode cX8_init 275 = .ok (.aload_n 0, 1) := by decide +kernel
theorem dX8_init_276 : decode cX8_init 276 = .ok (.bipush 16, 2) := by decide +kernel
theorem dX8_init_278 : decode cX8_init 278 = .ok (.newarray .int, 2) := by decide +kernel
theorem dX8_init_280 : decode cX8_init 280 = .ok (.putfield 64, 3) := by decide +kernel
theorem dX8_init_283 : decode cX8_init 283 = .ok (.aload_n 0, 1) := by decide +kernel
theorem dX8_init_284 : decode cX8_init 284 = .ok (.bipush 8, 2) := by decide +kernel
theorem dX8_init_286 : decode cX8_init 286 = .ok (.newarray .int, 2) := by decide +kernel
theorem dX8_init_288 : decode cX8_init 288 = .ok (.putfield 67, 3) := by decide +kernel
theorem dX8_init_291 : decode cX8_init 291 = .ok (.aload_n 0, 1) := by decide +kernel
theorem dX8_init_292 : decode cX8_init 292 = .ok (.bipush 64, 2) := by decide +kernel
theorem dX8_init_294 : decode cX8_init 294 = .ok (.newarray .int, 2) := by decide +kernel
theorem dX8_init_296 : decode cX8_init 296 = .ok (.putfield 70, 3) := by decide +kernel
theorem dX8_init_299 : decode cX8_init 299 = .ok (.aload_n 0, 1) := by decide +kernel
theorem dX8_init_300 : decode cX8_init 300 = .ok (.bipush 8, 2) := by decide +kernel
theorem dX8_init_302 : decode cX8_init 302 = .ok (.newarray .int, 2) := by decide +kernel
theorem dX8_init_304 : decode cX8_init 304 = .ok (.putfield 73, 3) := by decide +kernel
theorem dX8_init_307 : decode cX8_init 307 = .ok (.aload_n 0, 1) := by decide +kernel
theorem dX8_init_308 : decode cX8_init 308 = .ok (.iconst 2, 1) := by decide +kernel
theorem dX8_init_309 : decode cX8_init 309 = .ok (.invokevirtual 76, 3) := by decide +kernel
theorem dX8_init_312 : decode cX8_init 312 = .ok (.aload_n 0, 1) := by decide +kernel
theorem dX8_init_313 : decode cX8_init 313 = .ok (.iconst 0, 1) := by decide +kernel
theorem dX8_init_314 : decode cX8_init 314 = .ok (.sipush 363, 3) := by decide +kernel
theorem dX8_init_317 : decode cX8_init 317 = .ok (.invokevirtual 80, 3) := by decide +kernel
theorem dX8_init_320 : decode cX8_init 320 = .ok (.return_, 1) := by decide +kernel
theorem dX8_in_0 : decode cX8_in 0 = .ok (.lload_n 0, 1) := by decide +kernel
theorem dX8_in_1 : decode cX8_in 1 = .ok (.lload_n 2, 1) := by decide +kernel
theorem dX8_in_2 : decode cX8_in 2 = .ok (.lcmp, 1) := by decide +kernel
theorem dX8_in_3 : decode cX8_in 3 = .ok (.ifCond .lt 14, 3) := by decide +kernel
theorem dX8_in_6 : decode cX8_in 6 = .ok (.lload_n 0, 1) := by decide +kernel
theorem dX8_in_7 : decode cX8_in 7 = .ok (.lload 4, 2) := by decide +kernel
theorem dX8_in_9 : decode cX8_in 9 = .ok (.lcmp, 1) := by decide +kernel
theorem dX8_in_10 : decode cX8_in 10 = .ok (.ifCond .gt 7, 3) := by decide +kernel
theorem dX8_in_13 : decode cX8_in 13 = .ok (.iconst 1, 1) := by decide +kernel
theorem dX8_in_14 : decode cX8_in 14 = .ok (.goto 4, 3) := by decide +kernel
theorem dX8_in_17 : decode cX8_in 17 = .ok (.iconst 0, 1) := by decide +kernel
theorem dX8_in_18 : decode cX8_in 18 = .ok (.ireturn, 1) := by decide +kernel
theorem dX8_copyRow_0 : decode cX8_copyRow 0 = .ok (.iconst 0, 1) := by decide +kernel
theorem dX8_copyRow_1 : decode cX8_copyRow 1 = .ok (.istore_n 3, 1) := by decide +kernel
theorem dX8_copyRow_2 : decode cX8_copyRow 2 = .ok (.iload_n 3, 1) := by decide +kernel
theorem dX8_copyRow_3 : decode cX8_copyRow 3 = .ok (.bipush 33, 2) := by decide +kernel
theorem dX8_copyRow_5 : decode cX8_copyRow 5 = .ok (.if_icmp .ge 25, 3) := by decide +kernel
theorem dX8_copyRow_8 : decode cX8_copyRow 8 = .ok (.aload_n 0, 1) := by decide +kernel
theorem dX8_copyRow_9 : decode cX8_copyRow 9 = .ok (.getfield 7, 3) := by decide +kernel
theorem dX8_copyRow_12 : decode cX8_copyRow 12 = .ok (.iload_n 2, 1) := by decide +kernel
theorem dX8_copyRow_13 : decode cX8_copyRow 13 = .ok (.iload_n 3, 1) := by decide +kernel
theorem dX8_copyRow_14 : decode cX8_copyRow 14 = .ok (.iadd, 1) := by decide +kernel
theorem dX8_copyRow_15 : decode cX8_copyRow 15 = .ok (.aload_n 0, 1) := by decide +kernel
theorem dX8_copyRow_16 : decode cX8_copyRow 16 = .ok (.getfield 7, 3) := by decide +kernel
theorem dX8_copyRow_19 : decode cX8_copyRow 19 = .ok (.iload_n 1, 1) := by decide +kernel
theorem dX8_copyRow_20 : decode cX8_copyRow 20 = .ok (.iload_n 3, 1) := by decide +kernel
theorem dX8_copyRow_21 : decode cX8_copyRow 21 = .ok (.iadd, 1) := by decide +kernel
theorem dX8_copyRow_22 : decode cX8_copyRow 22 = .ok (.iaload, 1) := by decide +kernel
theorem dX8_copyRow_23 : decode cX8_copyRow 23 = .ok (.iastore, 1) := by decide +kernel
theorem dX8_copyRow_24 : decode cX8_copyRow 24 = .ok (.iinc 3 1, 3) := by decide +kernel
theorem dX8_copyRow_27 : decode cX8_copyRow 27 = .ok (.goto (-25), 3) := by decide +kernel
theorem dX8_copyRow_30 : decode cX8_copyRow 30 = .ok (.return_, 1) := by decide +kernel
theorem dX8_anew_0 : decode cX8_anew 0 = .ok (.aload_n 0, 1) := by decide +kernel
theorem dX8_anew_1 : decode cX8_anew 1 = .ok (.iload_n 1, 1) := by decide +kernel
theorem dX8_anew_2 : decode cX8_anew 2 = .ok (.putfield 84, 3) := by decide +kernel
theorem dX8_anew_5 : decode cX8_anew 5 = .ok (.aload_n 0, 1) := by decide +kernel
theorem dX8_anew_6 : decode cX8_anew 6 = .ok (.iconst 0, 1) := by decide +kernel
theorem dX8_anew_7 : decode cX8_anew 7 = .ok (.putfield 88, 3) := by decide +kernel
theorem dX8_anew_10 : decode cX8_anew 10 = .ok (.aload_n 0, 1) := by decide +kernel
theorem dX8_anew_11 : decode cX8_anew 11 = .ok (.iconst 0, 1) := by decide +kernel
theorem dX8_anew_12 : decode cX8_anew 12 = .ok (.putfield 91, 3) := by decide +kernel
theorem dX8_anew_15 : decode cX8_anew 15 = .ok (.aload_n 0, 1) := by decide +kernel
theorem dX8_anew_16 : decode cX8_anew 16 = .ok (.iconst 0, 1) := by decide +kernel
theorem dX8_anew_17 : decode cX8_anew 17 = .ok (.putfield 94, 3) := by decide +kernel
theorem dX8_anew_20 : decode cX8_anew 20 = .ok (.aload_n 0, 1) := by decide +kernel
theorem dX8_anew_21 : decode cX8_anew 21 = .ok (.iconst 1, 1) := by decide +kernel
theorem dX8_anew_22 : decode cX8_anew 22 = .ok (.putfield 97, 3) := by decide +kernel
theorem dX8_anew_25 : decode cX8_anew 25 = .ok (.aload_n 0, 1) := by decide +kernel
theorem dX8_anew_26 : decode cX8_anew 26 = .ok (.getfield 7, 3) := by decide +kernel
theorem dX8_anew_29 : decode cX8_anew 29 = .ok (.iconst 0, 1) := by decide +kernel
theorem dX8_anew_30 : decode cX8_anew 30 = .ok (.bipush 99, 2) := by decide +kernel
theorem dX8_anew_32 : decode cX8_anew 32 = .ok (.iastore, 1) := by decide +kernel
theorem dX8_anew_33 : decode cX8_anew 33 = .ok (.return_, 1) := by decide +kernel
theorem dX8_write_0 : decode cX8_write 0 = .ok (.iload_n 1, 1) := by decide +kernel
theorem dX8_write_1 : decode cX8_write 1 = .ok (.i2l, 1) := by decide +kernel
theorem dX8_write_2 : decode cX8_write 2 = .ok (.lconst 0, 1) := by decide +kernel
theorem dX8_write_3 : decode cX8_write 3 = .ok (.ldc2_w 100, 3) := by decide +kernel
theorem dX8_write_6 : decode cX8_write 6 = .ok (.invokestatic 102, 3) := by decide +kernel
theorem dX8_write_9 : decode cX8_write 9 = .ok (.ifCond .ne 6, 3) := by decide +kernel
theorem dX8_write_12 : decode cX8_write 12 = .ok (.bipush (-3), 2) := by decide +kernel
theorem dX8_write_14 : decode cX8_write 14 = .ok (.ireturn, 1) := by decide +kernel
theorem dX8_write_15 : decode cX8_write 15 = .ok (.aload_n 0, 1) := by decide +kernel
theorem dX8_write_16 : decode cX8_write 16 = .ok (.getfield 106, 3) := by decide +kernel
theorem dX8_write_19 : decode cX8_write 19 = .ok (.sipush 200, 3) := by decide +kernel
theorem dX8_write_22 : decode cX8_write 22 = .ok (.if_icmp .ne 6, 3) := by decide +kernel
theorem dX8_write_25 : decode cX8_write 25 = .ok (.bipush (-5), 2) := by decide +kernel
theorem dX8_write_27 : decode cX8_write 27 = .ok (.ireturn, 1) := by decide +kernel
theorem dX8_write_28 : decode cX8_write 28 = .ok (.aload_n 0, 1) := by decide +kernel
theorem dX8_write_29 : decode cX8_write 29 = .ok (.getfield 23, 3) := by decide +kernel
theorem dX8_write_32 : decode cX8_write 32 = .ok (.aload_n 0, 1) := by decide +kernel
theorem dX8_write_33 : decode cX8_write 33 = .ok (.getfield 106, 3) := by decide +kernel
theorem dX8_write_36 : decode cX8_write 36 = .ok (.iload_n 1, 1) := by decide +kernel
theorem dX8_write_37 : decode cX8_write 37 = .ok (.iastore, 1) := by decide +kernel
theorem dX8_write_38 : decode cX8_write 38 = .ok (.aload_n 0, 1) := by decide +kernel
theorem dX8_write_39 : decode cX8_write 39 = .ok (.dup, 1) := by decide +kernel
theorem dX8_write_40 : decode cX8_write 40 = .ok (.getfield 106, 3) := by decide +kernel
theorem dX8_write_43 : decode cX8_write 43 = .ok (.iconst 1, 1) := by decide +kernel
theorem dX8_write_44 : decode cX8_write 44 = .ok (.iadd, 1) := by decide +kernel
theorem dX8_write_45 : decode cX8_write 45 = .ok (.putfield 106, 3) := by decide +kernel
theorem dX8_write_48 : decode cX8_write 48 = .ok (.aload_n 0, 1) := by decide +kernel
theorem dX8_write_49 : decode cX8_write 49 = .ok (.getfield 106, 3) := by decide +kernel
theorem dX8_write_52 : decode cX8_write 52 = .ok (.ireturn, 1) := by decide +kernel
theorem dX8_erase_0 : decode cX8_erase 0 = .ok (.aload_n 0, 1) := by decide +kernel
theorem dX8_erase_1 : decode cX8_erase 1 = .ok (.getfield 106, 3) := by decide +kernel
theorem dX8_erase_4 : decode cX8_erase 4 = .ok (.istore_n 1, 1) := by decide +kernel
theorem dX8_erase_5 : decode cX8_erase 5 = .ok (.aload_n 0, 1) := by decide +kernel
theorem dX8_erase_6 : decode cX8_erase 6 = .ok (.iconst 0, 1) := by decide +kernel
theorem dX8_erase_7 : decode cX8_erase 7 = .ok (.putfield 106, 3) := by decide +kernel
theorem dX8_erase_10 : decode cX8_erase 10 = .ok (.iload_n 1, 1) := by decide +kernel
theorem dX8_erase_11 : decode cX8_erase 11 = .ok (.ireturn, 1) := by decide +kernel
theorem dX8_isLetter_0 : decode cX8_isLetter 0 = .ok (.iload_n 0, 1) := by decide +kernel
theorem dX8_isLetter_1 : decode cX8_isLetter 1 = .ok (.i2l, 1) := by decide +kernel
theorem dX8_isLetter_2 : decode cX8_isLetter 2 = .ok (.ldc2_w 109, 3) := by decide +kernel
theorem dX8_isLetter_5 : decode cX8_isLetter 5 = .ok (.ldc2_w 111, 3) := by decide +kernel
theorem dX8_isLetter_8 : decode cX8_isLetter 8 = .ok (.invokestatic 102, 3) := by decide +kernel
theorem dX8_isLetter_11 : decode cX8_isLetter 11 = .ok (.ireturn, 1) := by decide +kernel
theorem dX8_isDigit_0 : decode cX8_isDigit 0 = .ok (.iload_n 0, 1) := by decide +kernel
theorem dX8_isDigit_1 : decode cX8_isDigit 1 = .ok (.i2l, 1) := by decide +kernel
theorem dX8_isDigit_2 : decode cX8_isDigit 2 = .ok (.ldc2_w 113, 3) := by decide +kernel
theorem dX8_isDigit_5 : decode cX8_isDigit 5 = .ok (.ldc2_w 115, 3) := by decide +kernel
theorem dX8_isDigit_8 : decode cX8_isDigit 8 = .ok (.invokestatic 102, 3) := by decide +kernel
theorem dX8_isDigit_11 : decode cX8_isDigit 11 = .ok (.ireturn, 1) := by decide +kernel
theorem dX8_nextToken_0 : decode cX8_nextToken 0 = .ok (.aload_n 0, 1) := by decide +kernel
theorem dX8_nextToken_1 : decode cX8_nextToken 1 = .ok (.aload_n 0, 1) := by decide +kernel
theorem dX8_nextToken_2 : decode cX8_nextToken 2 = .ok (.getfield 117, 3) := by decide +kernel
theorem dX8_nextToken_5 : decode cX8_nextToken 5 = .ok (.putfield 120, 3) := by decide +kernel
theorem dX8_nextToken_8 : decode cX8_nextToken 8 = .ok (.aload_n 0, 1) := by decide +kernel
theorem dX8_nextToken_9 : decode cX8_nextToken 9 = .ok (.getfield 120, 3) := by decide +kernel
theorem dX8_nextToken_12 : decode cX8_nextToken 12 = .ok (.aload_n 0, 1) := by decide +kernel
theorem dX8_nextToken_13 : decode cX8_nextToken 13 = .ok (.getfield 106, 3) := by decide +kernel
theorem dX8_nextToken_16 : decode cX8_nextToken 16 = .ok (.if_icmp .ge 30, 3) := by decide +kernel
theorem dX8_nextToken_19 : decode cX8_nextToken 19 = .ok (.aload_n 0, 1) := by decide +kernel
theorem dX8_nextToken_20 : decode cX8_nextToken 20 = .ok (.getfield 23, 3) := by decide +kernel
theorem dX8_nextToken_23 : decode cX8_nextToken 23 = .ok (.aload_n 0, 1) := by decide +kernel
theorem dX8_nextToken_24 : decode cX8_nextToken 24 = .ok (.getfield 120, 3) := by decide +kernel
theorem dX8_nextToken_27 : decode cX8_nextToken 27 = .ok (.iaload, 1) := by decide +kernel
theorem dX8_nextToken_28 : decode cX8_nextToken 28 = .ok (.bipush 32, 2) := by decide +kernel
theorem dX8_nextToken_30 : decode cX8_nextToken 30 = .ok (.if_icmp .ne 16, 3) := by decide +kernel
theorem dX8_nextToken_33 : decode cX8_nextToken 33 = .ok (.aload_n 0, 1) := by decide +kernel
theorem dX8_nextToken_34 : decode cX8_nextToken 34 = .ok (.dup, 1) := by decide +kernel
theorem dX8_nextToken_35 : decode cX8_nextToken 35 = .ok (.getfield 120, 3) := by decide +kernel
theorem dX8_nextToken_38 : decode cX8_nextToken 38 = .ok (.iconst 1, 1) := by decide +kernel
theorem dX8_nextToken_39 : decode cX8_nextToken 39 = .ok (.iadd, 1) := by decide +kernel
theorem dX8_nextToken_40 : decode cX8_nextToken 40 = .ok (.putfield 120, 3) := by decide +kernel
theorem dX8_nextToken_43 : decode cX8_nextToken 43 = .ok (.goto (-35), 3) := by decide +kernel
theorem dX8_nextToken_46 : decode cX8_nextToken 46 = .ok (.aload_n 0, 1) := by decide +kernel
theorem dX8_nextToken_47 : decode cX8_nextToken 47 = .ok (.aload_n 0, 1) := by decide +kernel
theorem dX8_nextToken_48 : decode cX8_nextToken 48 = .ok (.getfield 120, 3) := by decide +kernel
theorem dX8_nextToken_51 : decode cX8_nextToken 51 = .ok (.aload_n 0, 1) := by decide +kernel
theorem dX8_nextToken_52 : decode cX8_nextToken 52 = .ok (.getfield 106, 3) := by decide +kernel
theorem dX8_nextToken_55 : decode cX8_nextToken 55 = .ok (.if_icmp .ge 12, 3) := by decide +kernel
theorem dX8_nextToken_58 : decode cX8_nextToken 58 = .ok (.aload_n 0, 1) := by decide +kernel
theorem dX8_nextToken_59 : decode cX8_nextToken 59 = .ok (.getfield 120, 3) := by decide +kernel
theorem dX8_nextToken_62 : decode cX8_nextToken 62 = .ok (.iconst 1, 1) := by decide +kernel
theorem dX8_nextToken_63 : decode cX8_nextToken 63 = .ok (.iadd, 1) := by decide +kernel
theorem dX8_nextToken_64 : decode cX8_nextToken 64 = .ok (.goto 7, 3) := by decide +kernel
theorem dX8_nextToken_67 : decode cX8_nextToken 67 = .ok (.aload_n 0, 1) := by decide +kernel
theorem dX8_nextToken_68 : decode cX8_nextToken 68 = .ok (.getfield 120, 3) := by decide +kernel
theorem dX8_nextToken_71 : decode cX8_nextToken 71 = .ok (.putfield 117, 3) := by decide +kernel
theorem dX8_nextToken_74 : decode cX8_nextToken 74 = .ok (.aload_n 0, 1) := by decide +kernel
theorem dX8_nextToken_75 : decode cX8_nextToken 75 = .ok (.getfield 120, 3) := by decide +kernel
theorem dX8_nextToken_78 : decode cX8_nextToken 78 = .ok (.aload_n 0, 1) := by decide +kernel
theorem dX8_nextToken_79 : decode cX8_nextToken 79 = .ok (.getfield 106, 3) := by decide +kernel
theorem dX8_nextToken_82 : decode cX8_nextToken 82 = .ok (.if_icmp .ge 57, 3) := by decide +kernel
theorem dX8_nextToken_85 : decode cX8_nextToken 85 = .ok (.aload_n 0, 1) := by decide +kernel
theorem dX8_nextToken_86 : decode cX8_nextToken 86 = .ok (.getfield 23, 3) := by decide +kernel
theorem dX8_nextToken_89 : decode cX8_nextToken 89 = .ok (.aload_n 0, 1) := by decide +kernel
theorem dX8_nextToken_90 : decode cX8_nextToken 90 = .ok (.getfield 120, 3) := by decide +kernel
theorem dX8_nextToken_93 : decode cX8_nextToken 93 = .ok (.iaload, 1) := by decide +kernel
theorem dX8_nextToken_94 : decode cX8_nextToken 94 = .ok (.invokestatic 123, 3) := by decide +kernel
theorem dX8_nextToken_97 : decode cX8_nextToken 97 = .ok (.ifCond .eq 42, 3) := by decide +kernel
theorem dX8_nextToken_100 : decode cX8_nextToken 100 = .ok (.aload_n 0, 1) := by decide +kernel
theorem dX8_nextToken_101 : decode cX8_nextToken 101 = .ok (.getfield 117, 3) := by decide +kernel
theorem dX8_nextToken_104 : decode cX8_nextToken 104 = .ok (.aload_n 0, 1) := by decide +kernel
theorem dX8_nextToken_105 : decode cX8_nextToken 105 = .ok (.getfield 106, 3) := by decide +kernel
theorem dX8_nextToken_108 : decode cX8_nextToken 108 = .ok (.if_icmp .ge 96, 3) := by decide +kernel
theorem dX8_nextToken_111 : decode cX8_nextToken 111 = .ok (.aload_n 0, 1) := by decide +kernel
theorem dX8_nextToken_112 : decode cX8_nextToken 112 = .ok (.getfield 23, 3) := by decide +kernel
theorem dX8_nextToken_115 : decode cX8_nextToken 115 = .ok (.aload_n 0, 1) := by decide +kernel
theorem dX8_nextToken_116 : decode cX8_nextToken 116 = .ok (.getfield 117, 3) := by decide +kernel
theorem dX8_nextToken_119 : decode cX8_nextToken 119 = .ok (.iaload, 1) := by decide +kernel
theorem dX8_nextToken_120 : decode cX8_nextToken 120 = .ok (.invokestatic 123, 3) := by decide +kernel
theorem dX8_nextToken_123 : decode cX8_nextToken 123 = .ok (.ifCond .eq 81, 3) := by decide +kernel
theorem dX8_nextToken_126 : decode cX8_nextToken 126 = .ok (.aload_n 0, 1) := by decide +kernel
theorem dX8_nextToken_127 : decode cX8_nextToken 127 = .ok (.dup, 1) := by decide +kernel
theorem dX8_nextToken_128 : decode cX8_nextToken 128 = .ok (.getfield 117, 3) := by decide +kernel
theorem dX8_nextToken_131 : decode cX8_nextToken 131 = .ok (.iconst 1, 1) := by decide +kernel
theorem dX8_nextToken_132 : decode cX8_nextToken 132 = .ok (.iadd, 1) := by decide +kernel
theorem dX8_nextToken_133 : decode cX8_nextToken 133 = .ok (.putfield 117, 3) := by decide +kernel
theorem dX8_nextToken_136 : decode cX8_nextToken 136 = .ok (.goto (-36), 3) := by decide +kernel
theorem dX8_nextToken_139 : decode cX8_nextToken 139 = .ok (.aload_n 0, 1) := by decide +kernel
theorem dX8_nextToken_140 : decode cX8_nextToken 140 = .ok (.getfield 120, 3) := by decide +kernel
theorem dX8_nextToken_143 : decode cX8_nextToken 143 = .ok (.aload_n 0, 1) := by decide +kernel
theorem dX8_nextToken_144 : decode cX8_nextToken 144 = .ok (.getfield 106, 3) := by decide +kernel
theorem dX8_nextToken_147 : decode cX8_nextToken 147 = .ok (.if_icmp .ge 57, 3) := by decide +kernel
theorem dX8_nextToken_150 : decode cX8_nextToken 150 = .ok (.aload_n 0, 1) := by decide +kernel
theorem dX8_nextToken_151 : decode cX8_nextToken 151 = .ok (.getfield 23, 3) := by decide +kernel
theorem dX8_nextToken_154 : decode cX8_nextToken 154 = .ok (.aload_n 0, 1) := by decide +kernel
theorem dX8_nextToken_155 : decode cX8_nextToken 155 = .ok (.getfield 120, 3) := by decide +kernel
theorem dX8_nextToken_158 : decode cX8_nextToken 158 = .ok (.iaload, 1) := by decide +kernel
theorem dX8_nextToken_159 : decode cX8_nextToken 159 = .ok (.invokestatic 127, 3) := by decide +kernel
theorem dX8_nextToken_162 : decode cX8_nextToken 162 = .ok (.ifCond .eq 42, 3) := by decide +kernel
theorem dX8_nextToken_165 : decode cX8_nextToken 165 = .ok (.aload_n 0, 1) := by decide +kernel
theorem dX8_nextToken_166 : decode cX8_nextToken 166 = .ok (.getfield 117, 3) := by decide +kernel
theorem dX8_nextToken_169 : decode cX8_nextToken 169 = .ok (.aload_n 0, 1) := by decide +kernel
theorem dX8_nextToken_170 : decode cX8_nextToken 170 = .ok (.getfield 106, 3) := by decide +kernel
theorem dX8_nextToken_173 : decode cX8_nextToken 173 = .ok (.if_icmp .ge 31, 3) := by decide +kernel
theorem dX8_nextToken_176 : decode cX8_nextToken 176 = .ok (.aload_n 0, 1) := by decide +kernel
theorem dX8_nextToken_177 : decode cX8_nextToken 177 = .ok (.getfield 23, 3) := by decide +kernel
theorem dX8_nextToken_180 : decode cX8_nextToken 180 = .ok (.aload_n 0, 1) := by decide +kernel
theorem dX8_nextToken_181 : decode cX8_nextToken 181 = .ok (.getfield 117, 3) := by decide +kernel
theorem dX8_nextToken_184 : decode cX8_nextToken 184 = .ok (.iaload, 1) := by decide +kernel
theorem dX8_nextToken_185 : decode cX8_nextToken 185 = .ok (.invokestatic 127, 3) := by decide +kernel
theorem dX8_nextToken_188 : decode cX8_nextToken 188 = .ok (.ifCond .eq 16, 3) := by decide +kernel
theorem dX8_nextToken_191 : decode cX8_nextToken 191 = .ok (.aload_n 0, 1) := by decide +kernel
theorem dX8_nextToken_192 : decode cX8_nextToken 192 = .ok (.dup, 1) := by decide +kernel
theorem dX8_nextToken_193 : decode cX8_nextToken 193 = .ok (.getfield 117, 3) := by decide +kernel
theorem dX8_nextToken_196 : decode cX8_nextToken 196 = .ok (.iconst 1, 1) := by decide +kernel
theorem dX8_nextToken_197 : decode cX8_nextToken 197 = .ok (.iadd, 1) := by decide +kernel
theorem dX8_nextToken_198 : decode cX8_nextToken 198 = .ok (.putfield 117, 3) := by decide +kernel
theorem dX8_nextToken_201 : decode cX8_nextToken 201 = .ok (.goto (-36), 3) := by decide +kernel
theorem dX8_nextToken_204 : decode cX8_nextToken 204 = .ok (.return_, 1) := by decide +kernel
theorem dX8_isWord_0 : decode cX8_isWord 0 = .ok (.aload_n 0, 1) := by decide +kernel
theorem dX8_isWord_1 : decode cX8_isWord 1 = .ok (.getfield 117, 3) := by decide +kernel
theorem dX8_isWord_4 : decode cX8_isWord 4 = .ok (.aload_n 0, 1) := by decide +kernel
theorem dX8_isWord_5 : decode cX8_isWord 5 = .ok (.getfield 120, 3) := by decide +kernel
theorem dX8_isWord_8 : decode cX8_isWord 8 = .ok (.isub, 1) := by decide +kernel
theorem dX8_isWord_9 : decode cX8_isWord 9 = .ok (.aload_n 1, 1) := by decide +kernel
theorem dX8_isWord_10 : decode cX8_isWord 10 = .ok (.arraylength, 1) := by decide +kernel
theorem dX8_isWord_11 : decode cX8_isWord 11 = .ok (.if_icmp .ne 7, 3) := by decide +kernel
theorem dX8_isWord_14 : decode cX8_isWord 14 = .ok (.iconst 1, 1) := by decide +kernel
theorem dX8_isWord_15 : decode cX8_isWord 15 = .ok (.goto 4, 3) := by decide +kernel
theorem dX8_isWord_18 : decode cX8_isWord 18 = .ok (.iconst 0, 1) := by decide +kernel
theorem dX8_isWord_19 : decode cX8_isWord 19 = .ok (.istore_n 2, 1) := by decide +kernel
theorem dX8_isWord_20 : decode cX8_isWord 20 = .ok (.iconst 0, 1) := by decide +kernel
theorem dX8_isWord_21 : decode cX8_isWord 21 = .ok (.istore_n 3, 1) := by decide +kernel
theorem dX8_isWord_22 : decode cX8_isWord 22 = .ok (.iload_n 3, 1) := by decide +kernel
theorem dX8_isWord_23 : decode cX8_isWord 23 = .ok (.aload_n 1, 1) := by decide +kernel
theorem dX8_isWord_24 : decode cX8_isWord 24 = .ok (.arraylength, 1) := by decide +kernel
theorem dX8_isWord_25 : decode cX8_isWord 25 = .ok (.if_icmp .ge 36, 3) := by decide +kernel
theorem dX8_isWord_28 : decode cX8_isWord 28 = .ok (.iload_n 2, 1) := by decide +kernel
theorem dX8_isWord_29 : decode cX8_isWord 29 = .ok (.ifCond .eq 32, 3) := by decide +kernel
theorem dX8_isWord_32 : decode cX8_isWord 32 = .ok (.aload_n 0, 1) := by decide +kernel
theorem dX8_isWord_33 : decode cX8_isWord 33 = .ok (.getfield 23, 3) := by decide +kernel
theorem dX8_isWord_36 : decode cX8_isWord 36 = .ok (.aload_n 0, 1) := by decide +kernel
theorem dX8_isWord_37 : decode cX8_isWord 37 = .ok (.getfield 120, 3) := by decide +kernel
theorem dX8_isWord_40 : decode cX8_isWord 40 = .ok (.iload_n 3, 1) := by decide +kernel
theorem dX8_isWord_41 : decode cX8_isWord 41 = .ok (.iadd, 1) := by decide +kernel
theorem dX8_isWord_42 : decode cX8_isWord 42 = .ok (.iaload, 1) := by decide +kernel
theorem dX8_isWord_43 : decode cX8_isWord 43 = .ok (.aload_n 1, 1) := by decide +kernel
theorem dX8_isWord_44 : decode cX8_isWord 44 = .ok (.iload_n 3, 1) := by decide +kernel
theorem dX8_isWord_45 : decode cX8_isWord 45 = .ok (.iaload, 1) := by decide +kernel
theorem dX8_isWord_46 : decode cX8_isWord 46 = .ok (.if_icmp .ne 7, 3) := by decide +kernel
theorem dX8_isWord_49 : decode cX8_isWord 49 = .ok (.iconst 1, 1) := by decide +kernel
theorem dX8_isWord_50 : decode cX8_isWord 50 = .ok (.goto 4, 3) := by decide +kernel
theorem dX8_isWord_53 : decode cX8_isWord 53 = .ok (.iconst 0, 1) := by decide +kernel
theorem dX8_isWord_54 : decode cX8_isWord 54 = .ok (.istore_n 2, 1) := by decide +kernel
theorem dX8_isWord_55 : decode cX8_isWord 55 = .ok (.iinc 3 1, 3) := by decide +kernel
theorem dX8_isWord_58 : decode cX8_isWord 58 = .ok (.goto (-36), 3) := by decide +kernel
theorem dX8_isWord_61 : decode cX8_isWord 61 = .ok (.iload_n 2, 1) := by decide +kernel
theorem dX8_isWord_62 : decode cX8_isWord 62 = .ok (.ireturn, 1) := by decide +kernel
theorem dX8_number_0 : decode cX8_number 0 = .ok (.aload_n 0, 1) := by decide +kernel
theorem dX8_number_1 : decode cX8_number 1 = .ok (.getfield 120, 3) := by decide +kernel
theorem dX8_number_4 : decode cX8_number 4 = .ok (.aload_n 0, 1) := by decide +kernel
theorem dX8_number_5 : decode cX8_number 5 = .ok (.getfield 106, 3) := by decide +kernel
theorem dX8_number_8 : decode cX8_number 8 = .ok (.if_icmp .eq 31, 3) := by decide +kernel
theorem dX8_number_11 : decode cX8_number 11 = .ok (.aload_n 0, 1) := by decide +kernel
theorem dX8_number_12 : decode cX8_number 12 = .ok (.getfield 23, 3) := by decide +kernel
theorem dX8_number_15 : decode cX8_number 15 = .ok (.aload_n 0, 1) := by decide +kernel
theorem dX8_number_16 : decode cX8_number 16 = .ok (.getfield 120, 3) := by decide +kernel
theorem dX8_number_19 : decode cX8_number 19 = .ok (.iaload, 1) := by decide +kernel
theorem dX8_number_20 : decode cX8_number 20 = .ok (.invokestatic 127, 3) := by decide +kernel
theorem dX8_number_23 : decode cX8_number 23 = .ok (.ifCond .eq 16, 3) := by decide +kernel
theorem dX8_number_26 : decode cX8_number 26 = .ok (.aload_n 0, 1) := by decide +kernel
theorem dX8_number_27 : decode cX8_number 27 = .ok (.getfield 117, 3) := by decide +kernel
theorem dX8_number_30 : decode cX8_number 30 = .ok (.aload_n 0, 1) := by decide +kernel
theorem dX8_number_31 : decode cX8_number 31 = .ok (.getfield 120, 3) := by decide +kernel
theorem dX8_number_34 : decode cX8_number 34 = .ok (.isub, 1) := by decide +kernel
theorem dX8_number_35 : decode cX8_number 35 = .ok (.iconst 3, 1) := by decide +kernel
theorem dX8_number_36 : decode cX8_number 36 = .ok (.if_icmp .le 5, 3) := by decide +kernel
theorem dX8_number_39 : decode cX8_number 39 = .ok (.iconst 0, 1) := by decide +kernel
theorem dX8_number_40 : decode cX8_number 40 = .ok (.ireturn, 1) := by decide +kernel
theorem dX8_number_41 : decode cX8_number 41 = .ok (.iconst 0, 1) := by decide +kernel
theorem dX8_number_42 : decode cX8_number 42 = .ok (.istore 4, 2) := by decide +kernel
theorem dX8_number_44 : decode cX8_number 44 = .ok (.aload_n 0, 1) := by decide +kernel
theorem dX8_number_45 : decode cX8_number 45 = .ok (.getfield 120, 3) := by decide +kernel
theorem dX8_number_48 : decode cX8_number 48 = .ok (.istore 5, 2) := by decide +kernel
theorem dX8_number_50 : decode cX8_number 50 = .ok (.iload 5, 2) := by decide +kernel
theorem dX8_number_52 : decode cX8_number 52 = .ok (.aload_n 0, 1) := by decide +kernel
theorem dX8_number_53 : decode cX8_number 53 = .ok (.getfield 117, 3) := by decide +kernel
theorem dX8_number_56 : decode cX8_number 56 = .ok (.if_icmp .ge 27, 3) := by decide +kernel
theorem dX8_number_59 : decode cX8_number 59 = .ok (.bipush 10, 2) := by decide +kernel
theorem dX8_number_61 : decode cX8_number 61 = .ok (.iload 4, 2) := by decide +kernel
theorem dX8_number_63 : decode cX8_number 63 = .ok (.imul, 1) := by decide +kernel
theorem dX8_number_64 : decode cX8_number 64 = .ok (.aload_n 0, 1) := by decide +kernel
theorem dX8_number_65 : decode cX8_number 65 = .ok (.getfield 23, 3) := by decide +kernel
theorem dX8_number_68 : decode cX8_number 68 = .ok (.iload 5, 2) := by decide +kernel
theorem dX8_number_70 : decode cX8_number 70 = .ok (.iaload, 1) := by decide +kernel
theorem dX8_number_71 : decode cX8_number 71 = .ok (.iadd, 1) := by decide +kernel
theorem dX8_number_72 : decode cX8_number 72 = .ok (.bipush 48, 2) := by decide +kernel
theorem dX8_number_74 : decode cX8_number 74 = .ok (.isub, 1) := by decide +kernel
theorem dX8_number_75 : decode cX8_number 75 = .ok (.istore 4, 2) := by decide +kernel
theorem dX8_number_77 : decode cX8_number 77 = .ok (.iinc 5 1, 3) := by decide +kernel
theorem dX8_number_80 : decode cX8_number 80 = .ok (.goto (-30), 3) := by decide +kernel
theorem dX8_number_83 : decode cX8_number 83 = .ok (.iload 4, 2) := by decide +kernel
theorem dX8_number_85 : decode cX8_number 85 = .ok (.i2l, 1) := by decide +kernel
theorem dX8_number_86 : decode cX8_number 86 = .ok (.iload_n 2, 1) := by decide +kernel
theorem dX8_number_87 : decode cX8_number 87 = .ok (.i2l, 1) := by decide +kernel
theorem dX8_number_88 : decode cX8_number 88 = .ok (.iload_n 3, 1) := by decide +kernel
theorem dX8_number_89 : decode cX8_number 89 = .ok (.i2l, 1) := by decide +kernel
theorem dX8_number_90 : decode cX8_number 90 = .ok (.invokestatic 102, 3) := by decide +kernel
theorem dX8_number_93 : decode cX8_number 93 = .ok (.istore 5, 2) := by decide +kernel
theorem dX8_number_95 : decode cX8_number 95 = .ok (.iload 5, 2) := by decide +kernel
theorem dX8_number_97 : decode cX8_number 97 = .ok (.ifCond .eq 15, 3) := by decide +kernel
theorem dX8_number_100 : decode cX8_number 100 = .ok (.aload_n 0, 1) := by decide +kernel
theorem dX8_number_101 : decode cX8_number 101 = .ok (.getfield 40, 3) := by decide +kernel
theorem dX8_number_104 : decode cX8_number 104 = .ok (.iload_n 1, 1) := by decide +kernel
theorem dX8_number_105 : decode cX8_number 105 = .ok (.iload 4, 2) := by decide +kernel
theorem dX8_number_107 : decode cX8_number 107 = .ok (.iastore, 1) := by decide +kernel
theorem dX8_number_108 : decode cX8_number 108 = .ok (.aload_n 0, 1) := by decide +kernel
theorem dX8_number_109 : decode cX8_number 109 = .ok (.invokevirtual 130, 3) := by decide +kernel
theorem dX8_number_112 : decode cX8_number 112 = .ok (.iload 5, 2) := by decide +kernel
theorem dX8_number_114 : decode cX8_number 114 = .ok (.ireturn, 1) := by decide +kernel
theorem dX8_wordHere_0 : decode cX8_wordHere 0 = .ok (.aload_n 0, 1) := by decide +kernel
theorem dX8_wordHere_1 : decode cX8_wordHere 1 = .ok (.aload_n 0, 1) := by decide +kernel
theorem dX8_wordHere_2 : decode cX8_wordHere 2 = .ok (.getfield 43, 3) := by decide +kernel
theorem dX8_wordHere_5 : decode cX8_wordHere 5 = .ok (.invokevirtual 133, 3) := by decide +kernel
theorem dX8_wordHere_8 : decode cX8_wordHere 8 = .ok (.ifCond .eq 7, 3) := by decide +kernel
theorem dX8_wordHere_11 : decode cX8_wordHere 11 = .ok (.iconst 0, 1) := by decide +kernel
theorem dX8_wordHere_12 : decode cX8_wordHere 12 = .ok (.goto 79, 3) := by decide +kernel
theorem dX8_wordHere_15 : decode cX8_wordHere 15 = .ok (.aload_n 0, 1) := by decide +kernel
theorem dX8_wordHere_16 : decode cX8_wordHere 16 = .ok (.aload_n 0, 1) := by decide +kernel
theorem dX8_wordHere_17 : decode cX8_wordHere 17 = .ok (.getfield 46, 3) := by decide +kernel
theorem dX8_wordHere_20 : decode cX8_wordHere 20 = .ok (.invokevirtual 133, 3) := by decide +kernel
theorem dX8_wordHere_23 : decode cX8_wordHere 23 = .ok (.ifCond .eq 7, 3) := by decide +kernel
theorem dX8_wordHere_26 : decode cX8_wordHere 26 = .ok (.iconst 1, 1) := by decide +kernel
theorem dX8_wordHere_27 : decode cX8_wordHere 27 = .ok (.goto 64, 3) := by decide +kernel
theorem dX8_wordHere_30 : decode cX8_wordHere 30 = .ok (.aload_n 0, 1) := by decide +kernel
theorem dX8_wordHere_31 : decode cX8_wordHere 31 = .ok (.aload_n 0, 1) := by decide +kernel
theorem dX8_wordHere_32 : decode cX8_wordHere 32 = .ok (.getfield 49, 3) := by decide +kernel
theorem dX8_wordHere_35 : decode cX8_wordHere 35 = .ok (.invokevirtual 133, 3) := by decide +kernel
theorem dX8_wordHere_38 : decode cX8_wordHere 38 = .ok (.ifCond .eq 7, 3) := by decide +kernel
theorem dX8_wordHere_41 : decode cX8_wordHere 41 = .ok (.iconst 2, 1) := by decide +kernel
theorem dX8_wordHere_42 : decode cX8_wordHere 42 = .ok (.goto 49, 3) := by decide +kernel
theorem dX8_wordHere_45 : decode cX8_wordHere 45 = .ok (.aload_n 0, 1) := by decide +kernel
theorem dX8_wordHere_46 : decode cX8_wordHere 46 = .ok (.aload_n 0, 1) := by decide +kernel
theorem dX8_wordHere_47 : decode cX8_wordHere 47 = .ok (.getfield 52, 3) := by decide +kernel
theorem dX8_wordHere_50 : decode cX8_wordHere 50 = .ok (.invokevirtual 133, 3) := by decide +kernel
theorem dX8_wordHere_53 : decode cX8_wordHere 53 = .ok (.ifCond .eq 7, 3) := by decide +kernel
theorem dX8_wordHere_56 : decode cX8_wordHere 56 = .ok (.iconst 3, 1) := by decide +kernel
theorem dX8_wordHere_57 : decode cX8_wordHere 57 = .ok (.goto 34, 3) := by decide +kernel
theorem dX8_wordHere_60 : decode cX8_wordHere 60 = .ok (.aload_n 0, 1) := by decide +kernel
theorem dX8_wordHere_61 : decode cX8_wordHere 61 = .ok (.aload_n 0, 1) := by decide +kernel
theorem dX8_wordHere_62 : decode cX8_wordHere 62 = .ok (.getfield 55, 3) := by decide +kernel
theorem dX8_wordHere_65 : decode cX8_wordHere 65 = .ok (.invokevirtual 133, 3) := by decide +kernel
theorem dX8_wordHere_68 : decode cX8_wordHere 68 = .ok (.ifCond .eq 7, 3) := by decide +kernel
theorem dX8_wordHere_71 : decode cX8_wordHere 71 = .ok (.iconst 4, 1) := by decide +kernel
theorem dX8_wordHere_72 : decode cX8_wordHere 72 = .ok (.goto 19, 3) := by decide +kernel
theorem dX8_wordHere_75 : decode cX8_wordHere 75 = .ok (.aload_n 0, 1) := by decide +kernel
theorem dX8_wordHere_76 : decode cX8_wordHere 76 = .ok (.aload_n 0, 1) := by decide +kernel
theorem dX8_wordHere_77 : decode cX8_wordHere 77 = .ok (.getfield 58, 3) := by decide +kernel
theorem dX8_wordHere_80 : decode cX8_wordHere 80 = .ok (.invokevirtual 133, 3) := by decide +kernel
theorem dX8_wordHere_83 : decode cX8_wordHere 83 = .ok (.ifCond .eq 7, 3) := by decide +kernel
theorem dX8_wordHere_86 : decode cX8_wordHere 86 = .ok (.iconst 5, 1) := by decide +kernel
theorem dX8_wordHere_87 : decode cX8_wordHere 87 = .ok (.goto 4, 3) := by decide +kernel
theorem dX8_wordHere_90 : decode cX8_wordHere 90 = .ok (.iconst (-1), 1) := by decide +kernel
theorem dX8_wordHere_91 : decode cX8_wordHere 91 = .ok (.ireturn, 1) := by decide +kernel
theorem dX8_readsNumbers_0 : decode cX8_readsNumbers 0 = .ok (.iload_n 1, 1) := by decide +kernel
theorem dX8_readsNumbers_1 : decode cX8_readsNumbers 1 = .ok (.tableswitch 129 0 5 #[39, 48, 129, 129, 110, 119], 39) := by decide +kernel
theorem dX8_readsNumbers_40 : decode cX8_readsNumbers 40 = .ok (.aload_n 0, 1) := by decide +kernel
theorem dX8_readsNumbers_41 : decode cX8_readsNumbers 41 = .ok (.iconst 0, 1) := by decide +kernel
theorem dX8_readsNumbers_42 : decode cX8_readsNumbers 42 = .ok (.iconst 2, 1) := by decide +kernel
theorem dX8_readsNumbers_43 : decode cX8_readsNumbers 43 = .ok (.bipush 8, 2) := by decide +kernel
theorem dX8_readsNumbers_45 : decode cX8_readsNumbers 45 = .ok (.invokevirtual 137, 3) := by decide +kernel
theorem dX8_readsNumbers_48 : decode cX8_readsNumbers 48 = .ok (.ireturn, 1) := by decide +kernel
theorem dX8_readsNumbers_49 : decode cX8_readsNumbers 49 = .ok (.aload_n 0, 1) := by decide +kernel
theorem dX8_readsNumbers_50 : decode cX8_readsNumbers 50 = .ok (.iconst 0, 1) := by decide +kernel
theorem dX8_readsNumbers_51 : decode cX8_readsNumbers 51 = .ok (.iconst 0, 1) := by decide +kernel
theorem dX8_readsNumbers_52 : decode cX8_readsNumbers 52 = .ok (.aload_n 0, 1) := by decide +kernel
theorem dX8_readsNumbers_53 : decode cX8_readsNumbers 53 = .ok (.getfield 141, 3) := by decide +kernel
theorem dX8_readsNumbers_56 : decode cX8_readsNumbers 56 = .ok (.iconst 1, 1) := by decide +kernel
theorem dX8_readsNumbers_57 : decode cX8_readsNumbers 57 = .ok (.isub, 1) := by decide +kernel
theorem dX8_readsNumbers_58 : decode cX8_readsNumbers 58 = .ok (.invokevirtual 137, 3) := by decide +kernel
theorem dX8_readsNumbers_61 : decode cX8_readsNumbers 61 = .ok (.ifCond .eq 48, 3) := by decide +kernel
theorem dX8_readsNumbers_64 : decode cX8_readsNumbers 64 = .ok (.aload_n 0, 1) := by decide +kernel
theorem dX8_readsNumbers_65 : decode cX8_readsNumbers 65 = .ok (.iconst 1, 1) := by decide +kernel
theorem dX8_readsNumbers_66 : decode cX8_readsNumbers 66 = .ok (.iconst 0, 1) := by decide +kernel
theorem dX8_readsNumbers_67 : decode cX8_readsNumbers 67 = .ok (.aload_n 0, 1) := by decide +kernel
theorem dX8_readsNumbers_68 : decode cX8_readsNumbers 68 = .ok (.getfield 141, 3) := by decide +kernel
theorem dX8_readsNumbers_71 : decode cX8_readsNumbers 71 = .ok (.iconst 1, 1) := by decide +kernel
theorem dX8_readsNumbers_72 : decode cX8_readsNumbers 72 = .ok (.isub, 1) := by decide +kernel
theorem dX8_readsNumbers_73 : decode cX8_readsNumbers 73 = .ok (.invokevirtual 137, 3) := by decide +kernel
theorem dX8_readsNumbers_76 : decode cX8_readsNumbers 76 = .ok (.ifCond .eq 33, 3) := by decide +kernel
theorem dX8_readsNumbers_79 : decode cX8_readsNumbers 79 = .ok (.aload_n 0, 1) := by decide +kernel
theorem dX8_readsNumbers_80 : decode cX8_readsNumbers 80 = .ok (.iconst 2, 1) := by decide +kernel
theorem dX8_readsNumbers_81 : decode cX8_readsNumbers 81 = .ok (.iconst 0, 1) := by decide +kernel
theorem dX8_readsNumbers_82 : decode cX8_readsNumbers 82 = .ok (.bipush 99, 2) := by decide +kernel
theorem dX8_readsNumbers_84 : decode cX8_readsNumbers 84 = .ok (.invokevirtual 137, 3) := by decide +kernel
theorem dX8_readsNumbers_87 : decode cX8_readsNumbers 87 = .ok (.ifCond .eq 22, 3) := by decide +kernel
theorem dX8_readsNumbers_90 : decode cX8_readsNumbers 90 = .ok (.aload_n 0, 1) := by decide +kernel
theorem dX8_readsNumbers_91 : decode cX8_readsNumbers 91 = .ok (.iconst 3, 1) := by decide +kernel
theorem dX8_readsNumbers_92 : decode cX8_readsNumbers 92 = .ok (.iconst 0, 1) := by decide +kernel
theorem dX8_readsNumbers_93 : decode cX8_readsNumbers 93 = .ok (.aload_n 0, 1) := by decide +kernel
theorem dX8_readsNumbers_94 : decode cX8_readsNumbers 94 = .ok (.getfield 40, 3) := by decide +kernel
theorem dX8_readsNumbers_97 : decode cX8_readsNumbers 97 = .ok (.iconst 2, 1) := by decide +kernel
theorem dX8_readsNumbers_98 : decode cX8_readsNumbers 98 = .ok (.iaload, 1) := by decide +kernel
theorem dX8_readsNumbers_99 : decode cX8_readsNumbers 99 = .ok (.invokevirtual 137, 3) := by decide +kernel
theorem dX8_readsNumbers_102 : decode cX8_readsNumbers 102 = .ok (.ifCond .eq 7, 3) := by decide +kernel
theorem dX8_readsNumbers_105 : decode cX8_readsNumbers 105 = .ok (.iconst 1, 1) := by decide +kernel
theorem dX8_readsNumbers_106 : decode cX8_readsNumbers 106 = .ok (.goto 4, 3) := by decide +kernel
theorem dX8_readsNumbers_109 : decode cX8_readsNumbers 109 = .ok (.iconst 0, 1) := by decide +kernel
theorem dX8_readsNumbers_110 : decode cX8_readsNumbers 110 = .ok (.ireturn, 1) := by decide +kernel
theorem dX8_readsNumbers_111 : decode cX8_readsNumbers 111 = .ok (.aload_n 0, 1) := by decide +kernel
theorem dX8_readsNumbers_112 : decode cX8_readsNumbers 112 = .ok (.iconst 0, 1) := by decide +kernel
theorem dX8_readsNumbers_113 : decode cX8_readsNumbers 113 = .ok (.iconst 1, 1) := by decide +kernel
theorem dX8_readsNumbers_114 : decode cX8_readsNumbers 114 = .ok (.bipush 9, 2) := by decide +kernel
theorem dX8_readsNumbers_116 : decode cX8_readsNumbers 116 = .ok (.invokevirtual 137, 3) := by decide +kernel
theorem dX8_readsNumbers_119 : decode cX8_readsNumbers 119 = .ok (.ireturn, 1) := by decide +kernel
theorem dX8_readsNumbers_120 : decode cX8_readsNumbers 120 = .ok (.aload_n 0, 1) := by decide +kernel
theorem dX8_readsNumbers_121 : decode cX8_readsNumbers 121 = .ok (.iconst 0, 1) := by decide +kernel
theorem dX8_readsNumbers_122 : decode cX8_readsNumbers 122 = .ok (.iconst 0, 1) := by decide +kernel
theorem dX8_readsNumbers_123 : decode cX8_readsNumbers 123 = .ok (.sipush 999, 3) := by decide +kernel
theorem dX8_readsNumbers_126 : decode cX8_readsNumbers 126 = .ok (.invokevirtual 137, 3) := by decide +kernel
theorem dX8_readsNumbers_129 : decode cX8_readsNumbers 129 = .ok (.ireturn, 1) := by decide +kernel
theorem dX8_readsNumbers_130 : decode cX8_readsNumbers 130 = .ok (.aload_n 0, 1) := by decide +kernel
theorem dX8_readsNumbers_131 : decode cX8_readsNumbers 131 = .ok (.iconst 0, 1) := by decide +kernel
theorem dX8_readsNumbers_132 : decode cX8_readsNumbers 132 = .ok (.iconst 0, 1) := by decide +kernel
theorem dX8_readsNumbers_133 : decode cX8_readsNumbers 133 = .ok (.bipush 9, 2) := by decide +kernel
theorem dX8_readsNumbers_135 : decode cX8_readsNumbers 135 = .ok (.invokevirtual 137, 3) := by decide +kernel
theorem dX8_readsNumbers_138 : decode cX8_readsNumbers 138 = .ok (.ireturn, 1) := by decide +kernel
theorem dX8_does_0 : decode cX8_does 0 = .ok (.iload_n 1, 1) := by decide +kernel
theorem dX8_does_1 : decode cX8_does 1 = .ok (.tableswitch 165 0 4 #[35, 48, 126, 139, 152], 35) := by decide +kernel
theorem dX8_does_36 : decode cX8_does 36 = .ok (.aload_n 0, 1) := by decide +kernel
theorem dX8_does_37 : decode cX8_does 37 = .ok (.aload_n 0, 1) := by decide +kernel
theorem dX8_does_38 : decode cX8_does 38 = .ok (.getfield 40, 3) := by decide +kernel
theorem dX8_does_41 : decode cX8_does 41 = .ok (.iconst 0, 1) := by decide +kernel
theorem dX8_does_42 : decode cX8_does 42 = .ok (.iaload, 1) := by decide +kernel
theorem dX8_does_43 : decode cX8_does 43 = .ok (.invokevirtual 76, 3) := by decide +kernel
theorem dX8_does_46 : decode cX8_does 46 = .ok (.goto 132, 3) := by decide +kernel
theorem dX8_does_49 : decode cX8_does 49 = .ok (.aload_n 0, 1) := by decide +kernel
theorem dX8_does_50 : decode cX8_does 50 = .ok (.getfield 13, 3) := by decide +kernel
theorem dX8_does_53 : decode cX8_does 53 = .ok (.aload_n 0, 1) := by decide +kernel
theorem dX8_does_54 : decode cX8_does 54 = .ok (.getfield 88, 3) := by decide +kernel
theorem dX8_does_57 : decode cX8_does 57 = .ok (.aload_n 0, 1) := by decide +kernel
theorem dX8_does_58 : decode cX8_does 58 = .ok (.getfield 40, 3) := by decide +kernel
theorem dX8_does_61 : decode cX8_does 61 = .ok (.iconst 0, 1) := by decide +kernel
theorem dX8_does_62 : decode cX8_does 62 = .ok (.iaload, 1) := by decide +kernel
theorem dX8_does_63 : decode cX8_does 63 = .ok (.iastore, 1) := by decide +kernel
theorem dX8_does_64 : decode cX8_does 64 = .ok (.aload_n 0, 1) := by decide +kernel
theorem dX8_does_65 : decode cX8_does 65 = .ok (.getfield 16, 3) := by decide +kernel
theorem dX8_does_68 : decode cX8_does 68 = .ok (.aload_n 0, 1) := by decide +kernel
theorem dX8_does_69 : decode cX8_does 69 = .ok (.getfield 88, 3) := by decide +kernel
theorem dX8_does_72 : decode cX8_does 72 = .ok (.aload_n 0, 1) := by decide +kernel
theorem dX8_does_73 : decode cX8_does 73 = .ok (.getfield 40, 3) := by decide +kernel
theorem dX8_does_76 : decode cX8_does 76 = .ok (.iconst 1, 1) := by decide +kernel
theorem dX8_does_77 : decode cX8_does 77 = .ok (.iaload, 1) := by decide +kernel
theorem dX8_does_78 : decode cX8_does 78 = .ok (.iastore, 1) := by decide +kernel
theorem dX8_does_79 : decode cX8_does 79 = .ok (.aload_n 0, 1) := by decide +kernel
theorem dX8_does_80 : decode cX8_does 80 = .ok (.getfield 7, 3) := by decide +kernel
theorem dX8_does_83 : decode cX8_does 83 = .ok (.iconst 1, 1) := by decide +kernel
theorem dX8_does_84 : decode cX8_does 84 = .ok (.aload_n 0, 1) := by decide +kernel
theorem dX8_does_85 : decode cX8_does 85 = .ok (.getfield 88, 3) := by decide +kernel
theorem dX8_does_88 : decode cX8_does 88 = .ok (.iadd, 1) := by decide +kernel
theorem dX8_does_89 : decode cX8_does 89 = .ok (.aload_n 0, 1) := by decide +kernel
theorem dX8_does_90 : decode cX8_does 90 = .ok (.getfield 40, 3) := by decide +kernel
theorem dX8_does_93 : decode cX8_does 93 = .ok (.iconst 2, 1) := by decide +kernel
theorem dX8_does_94 : decode cX8_does 94 = .ok (.iaload, 1) := by decide +kernel
theorem dX8_does_95 : decode cX8_does 95 = .ok (.iastore, 1) := by decide +kernel
theorem dX8_does_96 : decode cX8_does 96 = .ok (.aload_n 0, 1) := by decide +kernel
theorem dX8_does_97 : decode cX8_does 97 = .ok (.getfield 7, 3) := by decide +kernel
theorem dX8_does_100 : decode cX8_does 100 = .ok (.bipush 17, 2) := by decide +kernel
theorem dX8_does_102 : decode cX8_does 102 = .ok (.aload_n 0, 1) := by decide +kernel
theorem dX8_does_103 : decode cX8_does 103 = .ok (.getfield 88, 3) := by decide +kernel
theorem dX8_does_106 : decode cX8_does 106 = .ok (.iadd, 1) := by decide +kernel
theorem dX8_does_107 : decode cX8_does 107 = .ok (.aload_n 0, 1) := by decide +kernel
theorem dX8_does_108 : decode cX8_does 108 = .ok (.getfield 40, 3) := by decide +kernel
theorem dX8_does_111 : decode cX8_does 111 = .ok (.iconst 3, 1) := by decide +kernel
theorem dX8_does_112 : decode cX8_does 112 = .ok (.iaload, 1) := by decide +kernel
theorem dX8_does_113 : decode cX8_does 113 = .ok (.iastore, 1) := by decide +kernel
theorem dX8_does_114 : decode cX8_does 114 = .ok (.aload_n 0, 1) := by decide +kernel
theorem dX8_does_115 : decode cX8_does 115 = .ok (.dup, 1) := by decide +kernel
theorem dX8_does_116 : decode cX8_does 116 = .ok (.getfield 88, 3) := by decide +kernel
theorem dX8_does_119 : decode cX8_does 119 = .ok (.iconst 1, 1) := by decide +kernel
theorem dX8_does_120 : decode cX8_does 120 = .ok (.iadd, 1) := by decide +kernel
theorem dX8_does_121 : decode cX8_does 121 = .ok (.putfield 88, 3) := by decide +kernel
theorem dX8_does_124 : decode cX8_does 124 = .ok (.goto 54, 3) := by decide +kernel
theorem dX8_does_127 : decode cX8_does 127 = .ok (.aload_n 0, 1) := by decide +kernel
theorem dX8_does_128 : decode cX8_does 128 = .ok (.aload_n 0, 1) := by decide +kernel
theorem dX8_does_129 : decode cX8_does 129 = .ok (.getfield 40, 3) := by decide +kernel
theorem dX8_does_132 : decode cX8_does 132 = .ok (.iconst 0, 1) := by decide +kernel
theorem dX8_does_133 : decode cX8_does 133 = .ok (.iaload, 1) := by decide +kernel
theorem dX8_does_134 : decode cX8_does 134 = .ok (.putfield 91, 3) := by decide +kernel
theorem dX8_does_137 : decode cX8_does 137 = .ok (.goto 41, 3) := by decide +kernel
theorem dX8_does_140 : decode cX8_does 140 = .ok (.aload_n 0, 1) := by decide +kernel
theorem dX8_does_141 : decode cX8_does 141 = .ok (.aload_n 0, 1) := by decide +kernel
theorem dX8_does_142 : decode cX8_does 142 = .ok (.getfield 40, 3) := by decide +kernel
theorem dX8_does_145 : decode cX8_does 145 = .ok (.iconst 0, 1) := by decide +kernel
theorem dX8_does_146 : decode cX8_does 146 = .ok (.iaload, 1) := by decide +kernel
theorem dX8_does_147 : decode cX8_does 147 = .ok (.putfield 94, 3) := by decide +kernel
theorem dX8_does_150 : decode cX8_does 150 = .ok (.goto 28, 3) := by decide +kernel
theorem dX8_does_153 : decode cX8_does 153 = .ok (.aload_n 0, 1) := by decide +kernel
theorem dX8_does_154 : decode cX8_does 154 = .ok (.aload_n 0, 1) := by decide +kernel
theorem dX8_does_155 : decode cX8_does 155 = .ok (.getfield 40, 3) := by decide +kernel
theorem dX8_does_158 : decode cX8_does 158 = .ok (.iconst 0, 1) := by decide +kernel
theorem dX8_does_159 : decode cX8_does 159 = .ok (.iaload, 1) := by decide +kernel
theorem dX8_does_160 : decode cX8_does 160 = .ok (.putfield 97, 3) := by decide +kernel
theorem dX8_does_163 : decode cX8_does 163 = .ok (.goto 15, 3) := by decide +kernel
theorem dX8_does_166 : decode cX8_does 166 = .ok (.aload_n 0, 1) := by decide +kernel
theorem dX8_does_167 : decode cX8_does 167 = .ok (.getfield 7, 3) := by decide +kernel
theorem dX8_does_170 : decode cX8_does 170 = .ok (.iconst 0, 1) := by decide +kernel
theorem dX8_does_171 : decode cX8_does 171 = .ok (.aload_n 0, 1) := by decide +kernel
theorem dX8_does_172 : decode cX8_does 172 = .ok (.getfield 40, 3) := by decide +kernel
theorem dX8_does_175 : decode cX8_does 175 = .ok (.iconst 0, 1) := by decide +kernel
theorem dX8_does_176 : decode cX8_does 176 = .ok (.iaload, 1) := by decide +kernel
theorem dX8_does_177 : decode cX8_does 177 = .ok (.iastore, 1) := by decide +kernel
theorem dX8_does_178 : decode cX8_does 178 = .ok (.return_, 1) := by decide +kernel
theorem dX8_readsClause_0 : decode cX8_readsClause 0 = .ok (.aload_n 0, 1) := by decide +kernel
theorem dX8_readsClause_1 : decode cX8_readsClause 1 = .ok (.invokevirtual 144, 3) := by decide +kernel
theorem dX8_readsClause_4 : decode cX8_readsClause 4 = .ok (.istore_n 1, 1) := by decide +kernel
theorem dX8_readsClause_5 : decode cX8_readsClause 5 = .ok (.iload_n 1, 1) := by decide +kernel
theorem dX8_readsClause_6 : decode cX8_readsClause 6 = .ok (.iconst (-1), 1) := by decide +kernel
theorem dX8_readsClause_7 : decode cX8_readsClause 7 = .ok (.if_icmp .eq 17, 3) := by decide +kernel
theorem dX8_readsClause_10 : decode cX8_readsClause 10 = .ok (.iload_n 1, 1) := by decide +kernel
theorem dX8_readsClause_11 : decode cX8_readsClause 11 = .ok (.iconst 1, 1) := by decide +kernel
theorem dX8_readsClause_12 : decode cX8_readsClause 12 = .ok (.if_icmp .ne 14, 3) := by decide +kernel
theorem dX8_readsClause_15 : decode cX8_readsClause 15 = .ok (.aload_n 0, 1) := by decide +kernel
theorem dX8_readsClause_16 : decode cX8_readsClause 16 = .ok (.getfield 148, 3) := by decide +kernel
theorem dX8_readsClause_19 : decode cX8_readsClause 19 = .ok (.bipush 16, 2) := by decide +kernel
theorem dX8_readsClause_21 : decode cX8_readsClause 21 = .ok (.if_icmp .ne 5, 3) := by decide +kernel
theorem dX8_readsClause_24 : decode cX8_readsClause 24 = .ok (.iconst 0, 1) := by decide +kernel
theorem dX8_readsClause_25 : decode cX8_readsClause 25 = .ok (.ireturn, 1) := by decide +kernel
theorem dX8_readsClause_26 : decode cX8_readsClause 26 = .ok (.aload_n 0, 1) := by decide +kernel
theorem dX8_readsClause_27 : decode cX8_readsClause 27 = .ok (.invokevirtual 130, 3) := by decide +kernel
theorem dX8_readsClause_30 : decode cX8_readsClause 30 = .ok (.aload_n 0, 1) := by decide +kernel
theorem dX8_readsClause_31 : decode cX8_readsClause 31 = .ok (.iload_n 1, 1) := by decide +kernel
theorem dX8_readsClause_32 : decode cX8_readsClause 32 = .ok (.invokevirtual 151, 3) := by decide +kernel
theorem dX8_readsClause_35 : decode cX8_readsClause 35 = .ok (.ifCond .ne 5, 3) := by decide +kernel
theorem dX8_readsClause_38 : decode cX8_readsClause 38 = .ok (.iconst 0, 1) := by decide +kernel
theorem dX8_readsClause_39 : decode cX8_readsClause 39 = .ok (.ireturn, 1) := by decide +kernel
theorem dX8_readsClause_40 : decode cX8_readsClause 40 = .ok (.aload_n 0, 1) := by decide +kernel
theorem dX8_readsClause_41 : decode cX8_readsClause 41 = .ok (.iload_n 1, 1) := by decide +kernel
theorem dX8_readsClause_42 : decode cX8_readsClause 42 = .ok (.ifCond .ne 12, 3) := by decide +kernel
theorem dX8_readsClause_45 : decode cX8_readsClause 45 = .ok (.aload_n 0, 1) := by decide +kernel
theorem dX8_readsClause_46 : decode cX8_readsClause 46 = .ok (.getfield 40, 3) := by decide +kernel
theorem dX8_readsClause_49 : decode cX8_readsClause 49 = .ok (.iconst 0, 1) := by decide +kernel
theorem dX8_readsClause_50 : decode cX8_readsClause 50 = .ok (.iaload, 1) := by decide +kernel
theorem dX8_readsClause_51 : decode cX8_readsClause 51 = .ok (.goto 7, 3) := by decide +kernel
theorem dX8_readsClause_54 : decode cX8_readsClause 54 = .ok (.aload_n 0, 1) := by decide +kernel
theorem dX8_readsClause_55 : decode cX8_readsClause 55 = .ok (.getfield 141, 3) := by decide +kernel
theorem dX8_readsClause_58 : decode cX8_readsClause 58 = .ok (.putfield 141, 3) := by decide +kernel
theorem dX8_readsClause_61 : decode cX8_readsClause 61 = .ok (.aload_n 0, 1) := by decide +kernel
theorem dX8_readsClause_62 : decode cX8_readsClause 62 = .ok (.iload_n 1, 1) := by decide +kernel
theorem dX8_readsClause_63 : decode cX8_readsClause 63 = .ok (.ifCond .ne 7, 3) := by decide +kernel
theorem dX8_readsClause_66 : decode cX8_readsClause 66 = .ok (.iconst 0, 1) := by decide +kernel
theorem dX8_readsClause_67 : decode cX8_readsClause 67 = .ok (.goto 21, 3) := by decide +kernel
theorem dX8_readsClause_70 : decode cX8_readsClause 70 = .ok (.iload_n 1, 1) := by decide +kernel
theorem dX8_readsClause_71 : decode cX8_readsClause 71 = .ok (.iconst 1, 1) := by decide +kernel
theorem dX8_readsClause_72 : decode cX8_readsClause 72 = .ok (.if_icmp .ne 12, 3) := by decide +kernel
theorem dX8_readsClause_75 : decode cX8_readsClause 75 = .ok (.aload_n 0, 1) := by decide +kernel
theorem dX8_readsClause_76 : decode cX8_readsClause 76 = .ok (.getfield 148, 3) := by decide +kernel
theorem dX8_readsClause_79 : decode cX8_readsClause 79 = .ok (.iconst 1, 1) := by decide +kernel
theorem dX8_readsClause_80 : decode cX8_readsClause 80 = .ok (.iadd, 1) := by decide +kernel
theorem dX8_readsClause_81 : decode cX8_readsClause 81 = .ok (.goto 7, 3) := by decide +kernel
theorem dX8_readsClause_84 : decode cX8_readsClause 84 = .ok (.aload_n 0, 1) := by decide +kernel
theorem dX8_readsClause_85 : decode cX8_readsClause 85 = .ok (.getfield 148, 3) := by decide +kernel
theorem dX8_readsClause_88 : decode cX8_readsClause 88 = .ok (.putfield 148, 3) := by decide +kernel
theorem dX8_readsClause_91 : decode cX8_readsClause 91 = .ok (.aload_n 0, 1) := by decide +kernel
theorem dX8_readsClause_92 : decode cX8_readsClause 92 = .ok (.getfield 154, 3) := by decide +kernel
theorem dX8_readsClause_95 : decode cX8_readsClause 95 = .ok (.ifCond .eq 8, 3) := by decide +kernel
theorem dX8_readsClause_98 : decode cX8_readsClause 98 = .ok (.aload_n 0, 1) := by decide +kernel
theorem dX8_readsClause_99 : decode cX8_readsClause 99 = .ok (.iload_n 1, 1) := by decide +kernel
theorem dX8_readsClause_100 : decode cX8_readsClause 100 = .ok (.invokevirtual 158, 3) := by decide +kernel
theorem dX8_readsClause_103 : decode cX8_readsClause 103 = .ok (.iconst 1, 1) := by decide +kernel
theorem dX8_readsClause_104 : decode cX8_readsClause 104 = .ok (.ireturn, 1) := by decide +kernel
theorem dX8_reads_0 : decode cX8_reads 0 = .ok (.aload_n 0, 1) := by decide +kernel
theorem dX8_reads_1 : decode cX8_reads 1 = .ok (.iload_n 1, 1) := by decide +kernel
theorem dX8_reads_2 : decode cX8_reads 2 = .ok (.putfield 154, 3) := by decide +kernel
theorem dX8_reads_5 : decode cX8_reads 5 = .ok (.aload_n 0, 1) := by decide +kernel
theorem dX8_reads_6 : decode cX8_reads 6 = .ok (.iconst 0, 1) := by decide +kernel
theorem dX8_reads_7 : decode cX8_reads 7 = .ok (.putfield 117, 3) := by decide +kernel
theorem dX8_reads_10 : decode cX8_reads 10 = .ok (.aload_n 0, 1) := by decide +kernel
theorem dX8_reads_11 : decode cX8_reads 11 = .ok (.iconst 1, 1) := by decide +kernel
theorem dX8_reads_12 : decode cX8_reads 12 = .ok (.putfield 161, 3) := by decide +kernel
theorem dX8_reads_15 : decode cX8_reads 15 = .ok (.aload_n 0, 1) := by decide +kernel
theorem dX8_reads_16 : decode cX8_reads 16 = .ok (.aload_n 0, 1) := by decide +kernel
theorem dX8_reads_17 : decode cX8_reads 17 = .ok (.getfield 84, 3) := by decide +kernel
theorem dX8_reads_20 : decode cX8_reads 20 = .ok (.putfield 141, 3) := by decide +kernel
theorem dX8_reads_23 : decode cX8_reads 23 = .ok (.aload_n 0, 1) := by decide +kernel
theorem dX8_reads_24 : decode cX8_reads 24 = .ok (.aload_n 0, 1) := by decide +kernel
theorem dX8_reads_25 : decode cX8_reads 25 = .ok (.getfield 88, 3) := by decide +kernel
theorem dX8_reads_28 : decode cX8_reads 28 = .ok (.putfield 148, 3) := by decide +kernel
theorem dX8_reads_31 : decode cX8_reads 31 = .ok (.aload_n 0, 1) := by decide +kernel
theorem dX8_reads_32 : decode cX8_reads 32 = .ok (.invokevirtual 130, 3) := by decide +kernel
theorem dX8_reads_35 : decode cX8_reads 35 = .ok (.aload_n 0, 1) := by decide +kernel
theorem dX8_reads_36 : decode cX8_reads 36 = .ok (.invokevirtual 164, 3) := by decide +kernel
theorem dX8_reads_39 : decode cX8_reads 39 = .ok (.istore_n 2, 1) := by decide +kernel
theorem dX8_reads_40 : decode cX8_reads 40 = .ok (.iload_n 2, 1) := by decide +kernel
theorem dX8_reads_41 : decode cX8_reads 41 = .ok (.ifCond .eq 69, 3) := by decide +kernel
theorem dX8_reads_44 : decode cX8_reads 44 = .ok (.aload_n 0, 1) := by decide +kernel
theorem dX8_reads_45 : decode cX8_reads 45 = .ok (.getfield 120, 3) := by decide +kernel
theorem dX8_reads_48 : decode cX8_reads 48 = .ok (.aload_n 0, 1) := by decide +kernel
theorem dX8_reads_49 : decode cX8_reads 49 = .ok (.getfield 106, 3) := by decide +kernel
theorem dX8_reads_52 : decode cX8_reads 52 = .ok (.if_icmp .ge 58, 3) := by decide +kernel
theorem dX8_reads_55 : decode cX8_reads 55 = .ok (.aload_n 0, 1) := by decide +kernel
theorem dX8_reads_56 : decode cX8_reads 56 = .ok (.getfield 161, 3) := by decide +kernel
theorem dX8_reads_59 : decode cX8_reads 59 = .ok (.bipush 24, 2) := by decide +kernel
theorem dX8_reads_61 : decode cX8_reads 61 = .ok (.if_icmp .ge 21, 3) := by decide +kernel
theorem dX8_reads_64 : decode cX8_reads 64 = .ok (.aload_n 0, 1) := by decide +kernel
theorem dX8_reads_65 : decode cX8_reads 65 = .ok (.getfield 23, 3) := by decide +kernel
theorem dX8_reads_68 : decode cX8_reads 68 = .ok (.aload_n 0, 1) := by decide +kernel
theorem dX8_reads_69 : decode cX8_reads 69 = .ok (.getfield 120, 3) := by decide +kernel
theorem dX8_reads_72 : decode cX8_reads 72 = .ok (.iaload, 1) := by decide +kernel
theorem dX8_reads_73 : decode cX8_reads 73 = .ok (.bipush 59, 2) := by decide +kernel
theorem dX8_reads_75 : decode cX8_reads 75 = .ok (.if_icmp .ne 7, 3) := by decide +kernel
theorem dX8_reads_78 : decode cX8_reads 78 = .ok (.iconst 1, 1) := by decide +kernel
theorem dX8_reads_79 : decode cX8_reads 79 = .ok (.goto 4, 3) := by decide +kernel
theorem dX8_reads_82 : decode cX8_reads 82 = .ok (.iconst 0, 1) := by decide +kernel
theorem dX8_reads_83 : decode cX8_reads 83 = .ok (.istore_n 2, 1) := by decide +kernel
theorem dX8_reads_84 : decode cX8_reads 84 = .ok (.iload_n 2, 1) := by decide +kernel
theorem dX8_reads_85 : decode cX8_reads 85 = .ok (.ifCond .eq (-45), 3) := by decide +kernel
theorem dX8_reads_88 : decode cX8_reads 88 = .ok (.aload_n 0, 1) := by decide +kernel
theorem dX8_reads_89 : decode cX8_reads 89 = .ok (.invokevirtual 130, 3) := by decide +kernel
theorem dX8_reads_92 : decode cX8_reads 92 = .ok (.aload_n 0, 1) := by decide +kernel
theorem dX8_reads_93 : decode cX8_reads 93 = .ok (.invokevirtual 164, 3) := by decide +kernel
theorem dX8_reads_96 : decode cX8_reads 96 = .ok (.istore_n 2, 1) := by decide +kernel
theorem dX8_reads_97 : decode cX8_reads 97 = .ok (.aload_n 0, 1) := by decide +kernel
theorem dX8_reads_98 : decode cX8_reads 98 = .ok (.dup, 1) := by decide +kernel
theorem dX8_reads_99 : decode cX8_reads 99 = .ok (.getfield 161, 3) := by decide +kernel
theorem dX8_reads_102 : decode cX8_reads 102 = .ok (.iconst 1, 1) := by decide +kernel
theorem dX8_reads_103 : decode cX8_reads 103 = .ok (.iadd, 1) := by decide +kernel
theorem dX8_reads_104 : decode cX8_reads 104 = .ok (.putfield 161, 3) := by decide +kernel
theorem dX8_reads_107 : decode cX8_reads 107 = .ok (.goto (-67), 3) := by decide +kernel
theorem dX8_reads_110 : decode cX8_reads 110 = .ok (.iload_n 2, 1) := by decide +kernel
theorem dX8_reads_111 : decode cX8_reads 111 = .ok (.ireturn, 1) := by decide +kernel
theorem dX8_fault_0 : decode cX8_fault 0 = .ok (.aload_n 0, 1) := by decide +kernel
theorem dX8_fault_1 : decode cX8_fault 1 = .ok (.iconst 0, 1) := by decide +kernel
theorem dX8_fault_2 : decode cX8_fault 2 = .ok (.invokevirtual 168, 3) := by decide +kernel
theorem dX8_fault_5 : decode cX8_fault 5 = .ok (.ifCond .eq 7, 3) := by decide +kernel
theorem dX8_fault_8 : decode cX8_fault 8 = .ok (.iconst (-1), 1) := by decide +kernel
theorem dX8_fault_9 : decode cX8_fault 9 = .ok (.goto 7, 3) := by decide +kernel
theorem dX8_fault_12 : decode cX8_fault 12 = .ok (.aload_n 0, 1) := by decide +kernel
theorem dX8_fault_13 : decode cX8_fault 13 = .ok (.getfield 120, 3) := by decide +kernel
theorem dX8_fault_16 : decode cX8_fault 16 = .ok (.ireturn, 1) := by decide +kernel
theorem dX8_net_0 : decode cX8_net 0 = .ok (.aload_n 0, 1) := by decide +kernel
theorem dX8_net_1 : decode cX8_net 1 = .ok (.iconst 0, 1) := by decide +kernel
theorem dX8_net_2 : decode cX8_net 2 = .ok (.invokevirtual 168, 3) := by decide +kernel
theorem dX8_net_5 : decode cX8_net 5 = .ok (.ifCond .ne 6, 3) := by decide +kernel
theorem dX8_net_8 : decode cX8_net 8 = .ok (.bipush (-4), 2) := by decide +kernel
theorem dX8_net_10 : decode cX8_net 10 = .ok (.ireturn, 1) := by decide +kernel
theorem dX8_net_11 : decode cX8_net 11 = .ok (.aload_n 0, 1) := by decide +kernel
theorem dX8_net_12 : decode cX8_net 12 = .ok (.sipush 363, 3) := by decide +kernel
theorem dX8_net_15 : decode cX8_net 15 = .ok (.iconst 0, 1) := by decide +kernel
theorem dX8_net_16 : decode cX8_net 16 = .ok (.invokevirtual 80, 3) := by decide +kernel
theorem dX8_net_19 : decode cX8_net 19 = .ok (.aload_n 0, 1) := by decide +kernel
theorem dX8_net_20 : decode cX8_net 20 = .ok (.iconst 1, 1) := by decide +kernel
theorem dX8_net_21 : decode cX8_net 21 = .ok (.invokevirtual 168, 3) := by decide +kernel
theorem dX8_net_24 : decode cX8_net 24 = .ok (.pop, 1) := by decide +kernel
theorem dX8_net_25 : decode cX8_net 25 = .ok (.aload_n 0, 1) := by decide +kernel
theorem dX8_net_26 : decode cX8_net 26 = .ok (.iconst 0, 1) := by decide +kernel
theorem dX8_net_27 : decode cX8_net 27 = .ok (.sipush 363, 3) := by decide +kernel
theorem dX8_net_30 : decode cX8_net 30 = .ok (.invokevirtual 80, 3) := by decide +kernel
theorem dX8_net_33 : decode cX8_net 33 = .ok (.aload_n 0, 1) := by decide +kernel
theorem dX8_net_34 : decode cX8_net 34 = .ok (.iconst 0, 1) := by decide +kernel
theorem dX8_net_35 : decode cX8_net 35 = .ok (.putfield 106, 3) := by decide +kernel
theorem dX8_net_38 : decode cX8_net 38 = .ok (.aload_n 0, 1) := by decide +kernel
theorem dX8_net_39 : decode cX8_net 39 = .ok (.iconst 0, 1) := by decide +kernel
theorem dX8_net_40 : decode cX8_net 40 = .ok (.putfield 172, 3) := by decide +kernel
theorem dX8_net_43 : decode cX8_net 43 = .ok (.aload_n 0, 1) := by decide +kernel
theorem dX8_net_44 : decode cX8_net 44 = .ok (.getfield 19, 3) := by decide +kernel
theorem dX8_net_47 : decode cX8_net 47 = .ok (.iconst 0, 1) := by decide +kernel
theorem dX8_net_48 : decode cX8_net 48 = .ok (.iconst 0, 1) := by decide +kernel
theorem dX8_net_49 : decode cX8_net 49 = .ok (.bastore, 1) := by decide +kernel
theorem dX8_net_50 : decode cX8_net 50 = .ok (.aload_n 0, 1) := by decide +kernel
theorem dX8_net_51 : decode cX8_net 51 = .ok (.getfield 19, 3) := by decide +kernel
theorem dX8_net_54 : decode cX8_net 54 = .ok (.iconst 1, 1) := by decide +kernel
theorem dX8_net_55 : decode cX8_net 55 = .ok (.iconst 0, 1) := by decide +kernel
theorem dX8_net_56 : decode cX8_net 56 = .ok (.bastore, 1) := by decide +kernel
theorem dX8_net_57 : decode cX8_net 57 = .ok (.iconst 0, 1) := by decide +kernel
theorem dX8_net_58 : decode cX8_net 58 = .ok (.istore_n 1, 1) := by decide +kernel
theorem dX8_net_59 : decode cX8_net 59 = .ok (.iload_n 1, 1) := by decide +kernel
theorem dX8_net_60 : decode cX8_net 60 = .ok (.iconst 3, 1) := by decide +kernel
theorem dX8_net_61 : decode cX8_net 61 = .ok (.if_icmp .ge 16, 3) := by decide +kernel
theorem dX8_net_64 : decode cX8_net 64 = .ok (.aload_n 0, 1) := by decide +kernel
theorem dX8_net_65 : decode cX8_net 65 = .ok (.getfield 29, 3) := by decide +kernel
theorem dX8_net_68 : decode cX8_net 68 = .ok (.iload_n 1, 1) := by decide +kernel
theorem dX8_net_69 : decode cX8_net 69 = .ok (.iconst (-1), 1) := by decide +kernel
theorem dX8_net_70 : decode cX8_net 70 = .ok (.iastore, 1) := by decide +kernel
theorem dX8_net_71 : decode cX8_net 71 = .ok (.iinc 1 1, 3) := by decide +kernel
theorem dX8_net_74 : decode cX8_net 74 = .ok (.goto (-15), 3) := by decide +kernel
theorem dX8_net_77 : decode cX8_net 77 = .ok (.aload_n 0, 1) := by decide +kernel
theorem dX8_net_78 : decode cX8_net 78 = .ok (.getfield 161, 3) := by decide +kernel
theorem dX8_net_81 : decode cX8_net 81 = .ok (.ireturn, 1) := by decide +kernel
theorem dX8_isPath_0 : decode cX8_isPath 0 = .ok (.iload_n 1, 1) := by decide +kernel
theorem dX8_isPath_1 : decode cX8_isPath 1 = .ok (.i2l, 1) := by decide +kernel
theorem dX8_isPath_2 : decode cX8_isPath 2 = .ok (.lconst 0, 1) := by decide +kernel
theorem dX8_isPath_3 : decode cX8_isPath 3 = .ok (.aload_n 0, 1) := by decide +kernel
theorem dX8_isPath_4 : decode cX8_isPath 4 = .ok (.getfield 88, 3) := by decide +kernel
theorem dX8_isPath_7 : decode cX8_isPath 7 = .ok (.iconst 1, 1) := by decide +kernel
theorem dX8_isPath_8 : decode cX8_isPath 8 = .ok (.isub, 1) := by decide +kernel
theorem dX8_isPath_9 : decode cX8_isPath 9 = .ok (.i2l, 1) := by decide +kernel
theorem dX8_isPath_10 : decode cX8_isPath 10 = .ok (.invokestatic 102, 3) := by decide +kernel
theorem dX8_isPath_13 : decode cX8_isPath 13 = .ok (.ireturn, 1) := by decide +kernel
theorem dX8_isRegister_0 : decode cX8_isRegister 0 = .ok (.iload_n 1, 1) := by decide +kernel
theorem dX8_isRegister_1 : decode cX8_isRegister 1 = .ok (.i2l, 1) := by decide +kernel
theorem dX8_isRegister_2 : decode cX8_isRegister 2 = .ok (.lconst 0, 1) := by decide +kernel
theorem dX8_isRegister_3 : decode cX8_isRegister 3 = .ok (.aload_n 0, 1) := by decide +kernel
theorem dX8_isRegister_4 : decode cX8_isRegister 4 = .ok (.getfield 84, 3) := by decide +kernel
theorem dX8_isRegister_7 : decode cX8_isRegister 7 = .ok (.iconst 1, 1) := by decide +kernel
theorem dX8_isRegister_8 : decode cX8_isRegister 8 = .ok (.isub, 1) := by decide +kernel
theorem dX8_isRegister_9 : decode cX8_isRegister 9 = .ok (.i2l, 1) := by decide +kernel
theorem dX8_isRegister_10 : decode cX8_isRegister 10 = .ok (.invokestatic 102, 3) := by decide +kernel
theorem dX8_isRegister_13 : decode cX8_isRegister 13 = .ok (.ireturn, 1) := by decide +kernel
theorem dX8_lateOf_0 : decode cX8_lateOf 0 = .ok (.iload_n 2, 1) := by decide +kernel
theorem dX8_lateOf_1 : decode cX8_lateOf 1 = .ok (.aload_n 0, 1) := by decide +kernel
theorem dX8_lateOf_2 : decode cX8_lateOf 2 = .ok (.getfield 7, 3) := by decide +kernel
theorem dX8_lateOf_5 : decode cX8_lateOf 5 = .ok (.iconst 1, 1) := by decide +kernel
theorem dX8_lateOf_6 : decode cX8_lateOf 6 = .ok (.iload_n 1, 1) := by decide +kernel
theorem dX8_lateOf_7 : decode cX8_lateOf 7 = .ok (.iadd, 1) := by decide +kernel
theorem dX8_lateOf_8 : decode cX8_lateOf 8 = .ok (.iaload, 1) := by decide +kernel
theorem dX8_lateOf_9 : decode cX8_lateOf 9 = .ok (.isub, 1) := by decide +kernel
theorem dX8_lateOf_10 : decode cX8_lateOf 10 = .ok (.aload_n 0, 1) := by decide +kernel
theorem dX8_lateOf_11 : decode cX8_lateOf 11 = .ok (.getfield 91, 3) := by decide +kernel
theorem dX8_lateOf_14 : decode cX8_lateOf 14 = .ok (.isub, 1) := by decide +kernel
theorem dX8_lateOf_15 : decode cX8_lateOf 15 = .ok (.ireturn, 1) := by decide +kernel
theorem dX8_soonOf_0 : decode cX8_soonOf 0 = .ok (.aload_n 0, 1) := by decide +kernel
theorem dX8_soonOf_1 : decode cX8_soonOf 1 = .ok (.getfield 7, 3) := by decide +kernel
theorem dX8_soonOf_4 : decode cX8_soonOf 4 = .ok (.bipush 17, 2) := by decide +kernel
theorem dX8_soonOf_6 : decode cX8_soonOf 6 = .ok (.iload_n 1, 1) := by decide +kernel
theorem dX8_soonOf_7 : decode cX8_soonOf 7 = .ok (.iadd, 1) := by decide +kernel
theorem dX8_soonOf_8 : decode cX8_soonOf 8 = .ok (.iaload, 1) := by decide +kernel
theorem dX8_soonOf_9 : decode cX8_soonOf 9 = .ok (.aload_n 0, 1) := by decide +kernel
theorem dX8_soonOf_10 : decode cX8_soonOf 10 = .ok (.getfield 94, 3) := by decide +kernel
theorem dX8_soonOf_13 : decode cX8_soonOf 13 = .ok (.isub, 1) := by decide +kernel
theorem dX8_soonOf_14 : decode cX8_soonOf 14 = .ok (.ireturn, 1) := by decide +kernel
theorem dX8_path_0 : decode cX8_path 0 = .ok (.aload_n 0, 1) := by decide +kernel
theorem dX8_path_1 : decode cX8_path 1 = .ok (.iload_n 1, 1) := by decide +kernel
theorem dX8_path_2 : decode cX8_path 2 = .ok (.invokevirtual 175, 3) := by decide +kernel
theorem dX8_path_5 : decode cX8_path 5 = .ok (.ifCond .ne 6, 3) := by decide +kernel
theorem dX8_path_8 : decode cX8_path 8 = .ok (.bipush (-2), 2) := by decide +kernel
theorem dX8_path_10 : decode cX8_path 10 = .ok (.ireturn, 1) := by decide +kernel
theorem dX8_path_11 : decode cX8_path 11 = .ok (.iload_n 2, 1) := by decide +kernel
theorem dX8_path_12 : decode cX8_path 12 = .ok (.tableswitch 99 0 5 #[40, 47, 54, 63, 73, 89], 40) := by decide +kernel
theorem dX8_path_52 : decode cX8_path 52 = .ok (.aload_n 0, 1) := by decide +kernel
theorem dX8_path_53 : decode cX8_path 53 = .ok (.getfield 13, 3) := by decide +kernel
theorem dX8_path_56 : decode cX8_path 56 = .ok (.iload_n 1, 1) := by decide +kernel
theorem dX8_path_57 : decode cX8_path 57 = .ok (.iaload, 1) := by decide +kernel
theorem dX8_path_58 : decode cX8_path 58 = .ok (.ireturn, 1) := by decide +kernel
theorem dX8_path_59 : decode cX8_path 59 = .ok (.aload_n 0, 1) := by decide +kernel
theorem dX8_path_60 : decode cX8_path 60 = .ok (.getfield 16, 3) := by decide +kernel
theorem dX8_path_63 : decode cX8_path 63 = .ok (.iload_n 1, 1) := by decide +kernel
theorem dX8_path_64 : decode cX8_path 64 = .ok (.iaload, 1) := by decide +kernel
theorem dX8_path_65 : decode cX8_path 65 = .ok (.ireturn, 1) := by decide +kernel
theorem dX8_path_66 : decode cX8_path 66 = .ok (.aload_n 0, 1) := by decide +kernel
theorem dX8_path_67 : decode cX8_path 67 = .ok (.getfield 7, 3) := by decide +kernel
theorem dX8_path_70 : decode cX8_path 70 = .ok (.iconst 1, 1) := by decide +kernel
theorem dX8_path_71 : decode cX8_path 71 = .ok (.iload_n 1, 1) := by decide +kernel
theorem dX8_path_72 : decode cX8_path 72 = .ok (.iadd, 1) := by decide +kernel
theorem dX8_path_73 : decode cX8_path 73 = .ok (.iaload, 1) := by decide +kernel
theorem dX8_path_74 : decode cX8_path 74 = .ok (.ireturn, 1) := by decide +kernel
theorem dX8_path_75 : decode cX8_path 75 = .ok (.aload_n 0, 1) := by decide +kernel
theorem dX8_path_76 : decode cX8_path 76 = .ok (.getfield 7, 3) := by decide +kernel
theorem dX8_path_79 : decode cX8_path 79 = .ok (.bipush 17, 2) := by decide +kernel
theorem dX8_path_81 : decode cX8_path 81 = .ok (.iload_n 1, 1) := by decide +kernel
theorem dX8_path_82 : decode cX8_path 82 = .ok (.iadd, 1) := by decide +kernel
theorem dX8_path_83 : decode cX8_path 83 = .ok (.iaload, 1) := by decide +kernel
theorem dX8_path_84 : decode cX8_path 84 = .ok (.ireturn, 1) := by decide +kernel
theorem dX8_path_85 : decode cX8_path 85 = .ok (.aload_n 0, 1) := by decide +kernel
theorem dX8_path_86 : decode cX8_path 86 = .ok (.iload_n 1, 1) := by decide +kernel
theorem dX8_path_87 : decode cX8_path 87 = .ok (.aload_n 0, 1) := by decide +kernel
theorem dX8_path_88 : decode cX8_path 88 = .ok (.getfield 7, 3) := by decide +kernel
theorem dX8_path_91 : decode cX8_path 91 = .ok (.iconst 0, 1) := by decide +kernel
theorem dX8_path_92 : decode cX8_path 92 = .ok (.iaload, 1) := by decide +kernel
theorem dX8_path_93 : decode cX8_path 93 = .ok (.invokevirtual 178, 3) := by decide +kernel
theorem dX8_path_96 : decode cX8_path 96 = .ok (.sipush 2000, 3) := by decide +kernel
theorem dX8_path_99 : decode cX8_path 99 = .ok (.iadd, 1) := by decide +kernel
theorem dX8_path_100 : decode cX8_path 100 = .ok (.ireturn, 1) := by decide +kernel
theorem dX8_path_101 : decode cX8_path 101 = .ok (.aload_n 0, 1) := by decide +kernel
theorem dX8_path_102 : decode cX8_path 102 = .ok (.iload_n 1, 1) := by decide +kernel
theorem dX8_path_103 : decode cX8_path 103 = .ok (.invokevirtual 182, 3) := by decide +kernel
theorem dX8_path_106 : decode cX8_path 106 = .ok (.sipush 2000, 3) := by decide +kernel
theorem dX8_path_109 : decode cX8_path 109 = .ok (.iadd, 1) := by decide +kernel
theorem dX8_path_110 : decode cX8_path 110 = .ok (.ireturn, 1) := by decide +kernel
theorem dX8_path_111 : decode cX8_path 111 = .ok (.bipush (-3), 2) := by decide +kernel
theorem dX8_path_113 : decode cX8_path 113 = .ok (.ireturn, 1) := by decide +kernel
theorem dX8_keepPast_0 : decode cX8_keepPast 0 = .ok (.iconst 0, 1) := by decide +kernel
theorem dX8_keepPast_1 : decode cX8_keepPast 1 = .ok (.istore_n 1, 1) := by decide +kernel
theorem dX8_keepPast_2 : decode cX8_keepPast 2 = .ok (.iload_n 1, 1) := by decide +kernel
theorem dX8_keepPast_3 : decode cX8_keepPast 3 = .ok (.sipush 231, 3) := by decide +kernel
theorem dX8_keepPast_6 : decode cX8_keepPast 6 = .ok (.if_icmp .ge 36, 3) := by decide +kernel
theorem dX8_keepPast_9 : decode cX8_keepPast 9 = .ok (.aload_n 0, 1) := by decide +kernel
theorem dX8_keepPast_10 : decode cX8_keepPast 10 = .ok (.getfield 172, 3) := by decide +kernel
theorem dX8_keepPast_13 : decode cX8_keepPast 13 = .ok (.bipush 8, 2) := by decide +kernel
theorem dX8_keepPast_15 : decode cX8_keepPast 15 = .ok (.if_icmp .ne 27, 3) := by decide +kernel
theorem dX8_keepPast_18 : decode cX8_keepPast 18 = .ok (.aload_n 0, 1) := by decide +kernel
theorem dX8_keepPast_19 : decode cX8_keepPast 19 = .ok (.getfield 7, 3) := by decide +kernel
theorem dX8_keepPast_22 : decode cX8_keepPast 22 = .ok (.bipush 33, 2) := by decide +kernel
theorem dX8_keepPast_24 : decode cX8_keepPast 24 = .ok (.iload_n 1, 1) := by decide +kernel
theorem dX8_keepPast_25 : decode cX8_keepPast 25 = .ok (.iadd, 1) := by decide +kernel
theorem dX8_keepPast_26 : decode cX8_keepPast 26 = .ok (.aload_n 0, 1) := by decide +kernel
theorem dX8_keepPast_27 : decode cX8_keepPast 27 = .ok (.getfield 7, 3) := by decide +kernel
theorem dX8_keepPast_30 : decode cX8_keepPast 30 = .ok (.bipush 66, 2) := by decide +kernel
theorem dX8_keepPast_32 : decode cX8_keepPast 32 = .ok (.iload_n 1, 1) := by decide +kernel
theorem dX8_keepPast_33 : decode cX8_keepPast 33 = .ok (.iadd, 1) := by decide +kernel
theorem dX8_keepPast_34 : decode cX8_keepPast 34 = .ok (.iaload, 1) := by decide +kernel
theorem dX8_keepPast_35 : decode cX8_keepPast 35 = .ok (.iastore, 1) := by decide +kernel
theorem dX8_keepPast_36 : decode cX8_keepPast 36 = .ok (.iinc 1 1, 3) := by decide +kernel
theorem dX8_keepPast_39 : decode cX8_keepPast 39 = .ok (.goto (-37), 3) := by decide +kernel
theorem dX8_keepPast_42 : decode cX8_keepPast 42 = .ok (.aload_n 0, 1) := by decide +kernel
theorem dX8_keepPast_43 : decode cX8_keepPast 43 = .ok (.dup, 1) := by decide +kernel
theorem dX8_keepPast_44 : decode cX8_keepPast 44 = .ok (.getfield 172, 3) := by decide +kernel
theorem dX8_keepPast_47 : decode cX8_keepPast 47 = .ok (.aload_n 0, 1) := by decide +kernel
theorem dX8_keepPast_48 : decode cX8_keepPast 48 = .ok (.getfield 172, 3) := by decide +kernel
theorem dX8_keepPast_51 : decode cX8_keepPast 51 = .ok (.bipush 8, 2) := by decide +kernel
theorem dX8_keepPast_53 : decode cX8_keepPast 53 = .ok (.if_icmp .ne 7, 3) := by decide +kernel
theorem dX8_keepPast_56 : decode cX8_keepPast 56 = .ok (.iconst 1, 1) := by decide +kernel
theorem dX8_keepPast_57 : decode cX8_keepPast 57 = .ok (.goto 4, 3) := by decide +kernel
theorem dX8_keepPast_60 : decode cX8_keepPast 60 = .ok (.iconst 0, 1) := by decide +kernel
theorem dX8_keepPast_61 : decode cX8_keepPast 61 = .ok (.isub, 1) := by decide +kernel
theorem dX8_keepPast_62 : decode cX8_keepPast 62 = .ok (.putfield 172, 3) := by decide +kernel
theorem dX8_keepPast_65 : decode cX8_keepPast 65 = .ok (.aload_n 0, 1) := by decide +kernel
theorem dX8_keepPast_66 : decode cX8_keepPast 66 = .ok (.iconst 0, 1) := by decide +kernel
theorem dX8_keepPast_67 : decode cX8_keepPast 67 = .ok (.bipush 33, 2) := by decide +kernel
theorem dX8_keepPast_69 : decode cX8_keepPast 69 = .ok (.bipush 33, 2) := by decide +kernel
theorem dX8_keepPast_71 : decode cX8_keepPast 71 = .ok (.aload_n 0, 1) := by decide +kernel
theorem dX8_keepPast_72 : decode cX8_keepPast 72 = .ok (.getfield 172, 3) := by decide +kernel
theorem dX8_keepPast_75 : decode cX8_keepPast 75 = .ok (.imul, 1) := by decide +kernel
theorem dX8_keepPast_76 : decode cX8_keepPast 76 = .ok (.iadd, 1) := by decide +kernel
theorem dX8_keepPast_77 : decode cX8_keepPast 77 = .ok (.invokevirtual 80, 3) := by decide +kernel
theorem dX8_keepPast_80 : decode cX8_keepPast 80 = .ok (.aload_n 0, 1) := by decide +kernel
theorem dX8_keepPast_81 : decode cX8_keepPast 81 = .ok (.dup, 1) := by decide +kernel
theorem dX8_keepPast_82 : decode cX8_keepPast 82 = .ok (.getfield 172, 3) := by decide +kernel
theorem dX8_keepPast_85 : decode cX8_keepPast 85 = .ok (.iconst 1, 1) := by decide +kernel
theorem dX8_keepPast_86 : decode cX8_keepPast 86 = .ok (.iadd, 1) := by decide +kernel
theorem dX8_keepPast_87 : decode cX8_keepPast 87 = .ok (.putfield 172, 3) := by decide +kernel
theorem dX8_keepPast_90 : decode cX8_keepPast 90 = .ok (.return_, 1) := by decide +kernel
theorem dX8_period_0 : decode cX8_period 0 = .ok (.iload_n 1, 1) := by decide +kernel
theorem dX8_period_1 : decode cX8_period 1 = .ok (.i2l, 1) := by decide +kernel
theorem dX8_period_2 : decode cX8_period 2 = .ok (.lconst 0, 1) := by decide +kernel
theorem dX8_period_3 : decode cX8_period 3 = .ok (.ldc2_w 186, 3) := by decide +kernel
theorem dX8_period_6 : decode cX8_period 6 = .ok (.invokestatic 102, 3) := by decide +kernel
theorem dX8_period_9 : decode cX8_period 9 = .ok (.ifCond .ne 6, 3) := by decide +kernel
theorem dX8_period_12 : decode cX8_period 12 = .ok (.bipush (-3), 2) := by decide +kernel
theorem dX8_period_14 : decode cX8_period 14 = .ok (.ireturn, 1) := by decide +kernel
theorem dX8_period_15 : decode cX8_period 15 = .ok (.aload_n 0, 1) := by decide +kernel
theorem dX8_period_16 : decode cX8_period 16 = .ok (.getfield 7, 3) := by decide +kernel
theorem dX8_period_19 : decode cX8_period 19 = .ok (.iconst 0, 1) := by decide +kernel
theorem dX8_period_20 : decode cX8_period 20 = .ok (.iaload, 1) := by decide +kernel
theorem dX8_period_21 : decode cX8_period 21 = .ok (.istore_n 2, 1) := by decide +kernel
theorem dX8_period_22 : decode cX8_period 22 = .ok (.iload_n 2, 1) := by decide +kernel
theorem dX8_period_23 : decode cX8_period 23 = .ok (.iload_n 1, 1) := by decide +kernel
theorem dX8_period_24 : decode cX8_period 24 = .ok (.if_icmp .ne 6, 3) := by decide +kernel
theorem dX8_period_27 : decode cX8_period 27 = .ok (.bipush (-4), 2) := by decide +kernel
theorem dX8_period_29 : decode cX8_period 29 = .ok (.ireturn, 1) := by decide +kernel
theorem dX8_period_30 : decode cX8_period 30 = .ok (.aload_n 0, 1) := by decide +kernel
theorem dX8_period_31 : decode cX8_period 31 = .ok (.invokevirtual 188, 3) := by decide +kernel
theorem dX8_period_34 : decode cX8_period 34 = .ok (.aload_n 0, 1) := by decide +kernel
theorem dX8_period_35 : decode cX8_period 35 = .ok (.getfield 7, 3) := by decide +kernel
theorem dX8_period_38 : decode cX8_period 38 = .ok (.iconst 0, 1) := by decide +kernel
theorem dX8_period_39 : decode cX8_period 39 = .ok (.iload_n 1, 1) := by decide +kernel
theorem dX8_period_40 : decode cX8_period 40 = .ok (.iastore, 1) := by decide +kernel
theorem dX8_period_41 : decode cX8_period 41 = .ok (.iload_n 2, 1) := by decide +kernel
theorem dX8_period_42 : decode cX8_period 42 = .ok (.ireturn, 1) := by decide +kernel
theorem dX8_slower_0 : decode cX8_slower 0 = .ok (.aload_n 0, 1) := by decide +kernel
theorem dX8_slower_1 : decode cX8_slower 1 = .ok (.iload_n 1, 1) := by decide +kernel
theorem dX8_slower_2 : decode cX8_slower 2 = .ok (.invokevirtual 175, 3) := by decide +kernel
theorem dX8_slower_5 : decode cX8_slower 5 = .ok (.ifCond .ne 6, 3) := by decide +kernel
theorem dX8_slower_8 : decode cX8_slower 8 = .ok (.bipush (-2), 2) := by decide +kernel
theorem dX8_slower_10 : decode cX8_slower 10 = .ok (.ireturn, 1) := by decide +kernel
theorem dX8_slower_11 : decode cX8_slower 11 = .ok (.iload_n 2, 1) := by decide +kernel
theorem dX8_slower_12 : decode cX8_slower 12 = .ok (.i2l, 1) := by decide +kernel
theorem dX8_slower_13 : decode cX8_slower 13 = .ok (.lconst 1, 1) := by decide +kernel
theorem dX8_slower_14 : decode cX8_slower 14 = .ok (.ldc2_w 191, 3) := by decide +kernel
theorem dX8_slower_17 : decode cX8_slower 17 = .ok (.invokestatic 102, 3) := by decide +kernel
theorem dX8_slower_20 : decode cX8_slower 20 = .ok (.ifCond .ne 6, 3) := by decide +kernel
theorem dX8_slower_23 : decode cX8_slower 23 = .ok (.bipush (-3), 2) := by decide +kernel
theorem dX8_slower_25 : decode cX8_slower 25 = .ok (.ireturn, 1) := by decide +kernel
theorem dX8_slower_26 : decode cX8_slower 26 = .ok (.aload_n 0, 1) := by decide +kernel
theorem dX8_slower_27 : decode cX8_slower 27 = .ok (.getfield 7, 3) := by decide +kernel
theorem dX8_slower_30 : decode cX8_slower 30 = .ok (.iconst 1, 1) := by decide +kernel
theorem dX8_slower_31 : decode cX8_slower 31 = .ok (.iload_n 1, 1) := by decide +kernel
theorem dX8_slower_32 : decode cX8_slower 32 = .ok (.iadd, 1) := by decide +kernel
theorem dX8_slower_33 : decode cX8_slower 33 = .ok (.iaload, 1) := by decide +kernel
theorem dX8_slower_34 : decode cX8_slower 34 = .ok (.iload_n 2, 1) := by decide +kernel
theorem dX8_slower_35 : decode cX8_slower 35 = .ok (.iadd, 1) := by decide +kernel
theorem dX8_slower_36 : decode cX8_slower 36 = .ok (.sipush 199, 3) := by decide +kernel
theorem dX8_slower_39 : decode cX8_slower 39 = .ok (.if_icmp .le 6, 3) := by decide +kernel
theorem dX8_slower_42 : decode cX8_slower 42 = .ok (.bipush (-4), 2) := by decide +kernel
theorem dX8_slower_44 : decode cX8_slower 44 = .ok (.ireturn, 1) := by decide +kernel
theorem dX8_slower_45 : decode cX8_slower 45 = .ok (.aload_n 0, 1) := by decide +kernel
theorem dX8_slower_46 : decode cX8_slower 46 = .ok (.invokevirtual 188, 3) := by decide +kernel
theorem dX8_slower_49 : decode cX8_slower 49 = .ok (.aload_n 0, 1) := by decide +kernel
theorem dX8_slower_50 : decode cX8_slower 50 = .ok (.getfield 7, 3) := by decide +kernel
theorem dX8_slower_53 : decode cX8_slower 53 = .ok (.iconst 1, 1) := by decide +kernel
theorem dX8_slower_54 : decode cX8_slower 54 = .ok (.iload_n 1, 1) := by decide +kernel
theorem dX8_slower_55 : decode cX8_slower 55 = .ok (.iadd, 1) := by decide +kernel
theorem dX8_slower_56 : decode cX8_slower 56 = .ok (.dup2, 1) := by decide +kernel
theorem dX8_slower_57 : decode cX8_slower 57 = .ok (.iaload, 1) := by decide +kernel
theorem dX8_slower_58 : decode cX8_slower 58 = .ok (.iload_n 2, 1) := by decide +kernel
theorem dX8_slower_59 : decode cX8_slower 59 = .ok (.iadd, 1) := by decide +kernel
theorem dX8_slower_60 : decode cX8_slower 60 = .ok (.iastore, 1) := by decide +kernel
theorem dX8_slower_61 : decode cX8_slower 61 = .ok (.aload_n 0, 1) := by decide +kernel
theorem dX8_slower_62 : decode cX8_slower 62 = .ok (.getfield 7, 3) := by decide +kernel
theorem dX8_slower_65 : decode cX8_slower 65 = .ok (.bipush 17, 2) := by decide +kernel
theorem dX8_slower_67 : decode cX8_slower 67 = .ok (.iload_n 1, 1) := by decide +kernel
theorem dX8_slower_68 : decode cX8_slower 68 = .ok (.iadd, 1) := by decide +kernel
theorem dX8_slower_69 : decode cX8_slower 69 = .ok (.dup2, 1) := by decide +kernel
theorem dX8_slower_70 : decode cX8_slower 70 = .ok (.iaload, 1) := by decide +kernel
theorem dX8_slower_71 : decode cX8_slower 71 = .ok (.iload_n 2, 1) := by decide +kernel
theorem dX8_slower_72 : decode cX8_slower 72 = .ok (.iadd, 1) := by decide +kernel
theorem dX8_slower_73 : decode cX8_slower 73 = .ok (.iastore, 1) := by decide +kernel
theorem dX8_slower_74 : decode cX8_slower 74 = .ok (.aload_n 0, 1) := by decide +kernel
theorem dX8_slower_75 : decode cX8_slower 75 = .ok (.getfield 7, 3) := by decide +kernel
theorem dX8_slower_78 : decode cX8_slower 78 = .ok (.iconst 1, 1) := by decide +kernel
theorem dX8_slower_79 : decode cX8_slower 79 = .ok (.iload_n 1, 1) := by decide +kernel
theorem dX8_slower_80 : decode cX8_slower 80 = .ok (.iadd, 1) := by decide +kernel
theorem dX8_slower_81 : decode cX8_slower 81 = .ok (.iaload, 1) := by decide +kernel
theorem dX8_slower_82 : decode cX8_slower 82 = .ok (.ireturn, 1) := by decide +kernel
theorem dX8_undo_0 : decode cX8_undo 0 = .ok (.aload_n 0, 1) := by decide +kernel
theorem dX8_undo_1 : decode cX8_undo 1 = .ok (.getfield 172, 3) := by decide +kernel
theorem dX8_undo_4 : decode cX8_undo 4 = .ok (.ifCond .ne 6, 3) := by decide +kernel
theorem dX8_undo_7 : decode cX8_undo 7 = .ok (.bipush (-4), 2) := by decide +kernel
theorem dX8_undo_9 : decode cX8_undo 9 = .ok (.ireturn, 1) := by decide +kernel
theorem dX8_undo_10 : decode cX8_undo 10 = .ok (.aload_n 0, 1) := by decide +kernel
theorem dX8_undo_11 : decode cX8_undo 11 = .ok (.dup, 1) := by decide +kernel
theorem dX8_undo_12 : decode cX8_undo 12 = .ok (.getfield 172, 3) := by decide +kernel
theorem dX8_undo_15 : decode cX8_undo 15 = .ok (.iconst 1, 1) := by decide +kernel
theorem dX8_undo_16 : decode cX8_undo 16 = .ok (.isub, 1) := by decide +kernel
theorem dX8_undo_17 : decode cX8_undo 17 = .ok (.putfield 172, 3) := by decide +kernel
theorem dX8_undo_20 : decode cX8_undo 20 = .ok (.aload_n 0, 1) := by decide +kernel
theorem dX8_undo_21 : decode cX8_undo 21 = .ok (.bipush 33, 2) := by decide +kernel
theorem dX8_undo_23 : decode cX8_undo 23 = .ok (.bipush 33, 2) := by decide +kernel
theorem dX8_undo_25 : decode cX8_undo 25 = .ok (.aload_n 0, 1) := by decide +kernel
theorem dX8_undo_26 : decode cX8_undo 26 = .ok (.getfield 172, 3) := by decide +kernel
theorem dX8_undo_29 : decode cX8_undo 29 = .ok (.imul, 1) := by decide +kernel
theorem dX8_undo_30 : decode cX8_undo 30 = .ok (.iadd, 1) := by decide +kernel
theorem dX8_undo_31 : decode cX8_undo 31 = .ok (.iconst 0, 1) := by decide +kernel
theorem dX8_undo_32 : decode cX8_undo 32 = .ok (.invokevirtual 80, 3) := by decide +kernel
theorem dX8_undo_35 : decode cX8_undo 35 = .ok (.aload_n 0, 1) := by decide +kernel
theorem dX8_undo_36 : decode cX8_undo 36 = .ok (.getfield 172, 3) := by decide +kernel
theorem dX8_undo_39 : decode cX8_undo 39 = .ok (.ireturn, 1) := by decide +kernel
theorem dX8_keep_0 : decode cX8_keep 0 = .ok (.iload_n 1, 1) := by decide +kernel
theorem dX8_keep_1 : decode cX8_keep 1 = .ok (.i2l, 1) := by decide +kernel
theorem dX8_keep_2 : decode cX8_keep 2 = .ok (.lconst 0, 1) := by decide +kernel
theorem dX8_keep_3 : decode cX8_keep 3 = .ok (.lconst 1, 1) := by decide +kernel
theorem dX8_keep_4 : decode cX8_keep 4 = .ok (.invokestatic 102, 3) := by decide +kernel
theorem dX8_keep_7 : decode cX8_keep 7 = .ok (.ifCond .ne 6, 3) := by decide +kernel
theorem dX8_keep_10 : decode cX8_keep 10 = .ok (.bipush (-2), 2) := by decide +kernel
theorem dX8_keep_12 : decode cX8_keep 12 = .ok (.ireturn, 1) := by decide +kernel
theorem dX8_keep_13 : decode cX8_keep 13 = .ok (.aload_n 0, 1) := by decide +kernel
theorem dX8_keep_14 : decode cX8_keep 14 = .ok (.iconst 0, 1) := by decide +kernel
theorem dX8_keep_15 : decode cX8_keep 15 = .ok (.sipush 297, 3) := by decide +kernel
theorem dX8_keep_18 : decode cX8_keep 18 = .ok (.bipush 33, 2) := by decide +kernel
theorem dX8_keep_20 : decode cX8_keep 20 = .ok (.iload_n 1, 1) := by decide +kernel
theorem dX8_keep_21 : decode cX8_keep 21 = .ok (.imul, 1) := by decide +kernel
theorem dX8_keep_22 : decode cX8_keep 22 = .ok (.iadd, 1) := by decide +kernel
theorem dX8_keep_23 : decode cX8_keep 23 = .ok (.invokevirtual 80, 3) := by decide +kernel
theorem dX8_keep_26 : decode cX8_keep 26 = .ok (.aload_n 0, 1) := by decide +kernel
theorem dX8_keep_27 : decode cX8_keep 27 = .ok (.getfield 19, 3) := by decide +kernel
theorem dX8_keep_30 : decode cX8_keep 30 = .ok (.iload_n 1, 1) := by decide +kernel
theorem dX8_keep_31 : decode cX8_keep 31 = .ok (.iconst 1, 1) := by decide +kernel
theorem dX8_keep_32 : decode cX8_keep 32 = .ok (.bastore, 1) := by decide +kernel
theorem dX8_keep_33 : decode cX8_keep 33 = .ok (.aload_n 0, 1) := by decide +kernel
theorem dX8_keep_34 : decode cX8_keep 34 = .ok (.getfield 7, 3) := by decide +kernel
theorem dX8_keep_37 : decode cX8_keep 37 = .ok (.iconst 0, 1) := by decide +kernel
theorem dX8_keep_38 : decode cX8_keep 38 = .ok (.iaload, 1) := by decide +kernel
theorem dX8_keep_39 : decode cX8_keep 39 = .ok (.ireturn, 1) := by decide +kernel
theorem dX8_back_0 : decode cX8_back 0 = .ok (.iload_n 1, 1) := by decide +kernel
theorem dX8_back_1 : decode cX8_back 1 = .ok (.i2l, 1) := by decide +kernel
theorem dX8_back_2 : decode cX8_back 2 = .ok (.lconst 0, 1) := by decide +kernel
theorem dX8_back_3 : decode cX8_back 3 = .ok (.lconst 1, 1) := by decide +kernel
theorem dX8_back_4 : decode cX8_back 4 = .ok (.invokestatic 102, 3) := by decide +kernel
theorem dX8_back_7 : decode cX8_back 7 = .ok (.ifCond .ne 6, 3) := by decide +kernel
theorem dX8_back_10 : decode cX8_back 10 = .ok (.bipush (-2), 2) := by decide +kernel
theorem dX8_back_12 : decode cX8_back 12 = .ok (.ireturn, 1) := by decide +kernel
theorem dX8_back_13 : decode cX8_back 13 = .ok (.aload_n 0, 1) := by decide +kernel
theorem dX8_back_14 : decode cX8_back 14 = .ok (.getfield 19, 3) := by decide +kernel
theorem dX8_back_17 : decode cX8_back 17 = .ok (.iload_n 1, 1) := by decide +kernel
theorem dX8_back_18 : decode cX8_back 18 = .ok (.baload, 1) := by decide +kernel
theorem dX8_back_19 : decode cX8_back 19 = .ok (.ifCond .ne 6, 3) := by decide +kernel
theorem dX8_back_22 : decode cX8_back 22 = .ok (.bipush (-4), 2) := by decide +kernel
theorem dX8_back_24 : decode cX8_back 24 = .ok (.ireturn, 1) := by decide +kernel
theorem dX8_back_25 : decode cX8_back 25 = .ok (.aload_n 0, 1) := by decide +kernel
theorem dX8_back_26 : decode cX8_back 26 = .ok (.sipush 297, 3) := by decide +kernel
theorem dX8_back_29 : decode cX8_back 29 = .ok (.bipush 33, 2) := by decide +kernel
theorem dX8_back_31 : decode cX8_back 31 = .ok (.iload_n 1, 1) := by decide +kernel
theorem dX8_back_32 : decode cX8_back 32 = .ok (.imul, 1) := by decide +kernel
theorem dX8_back_33 : decode cX8_back 33 = .ok (.iadd, 1) := by decide +kernel
theorem dX8_back_34 : decode cX8_back 34 = .ok (.iconst 0, 1) := by decide +kernel
theorem dX8_back_35 : decode cX8_back 35 = .ok (.invokevirtual 80, 3) := by decide +kernel
theorem dX8_back_38 : decode cX8_back 38 = .ok (.aload_n 0, 1) := by decide +kernel
theorem dX8_back_39 : decode cX8_back 39 = .ok (.iconst 0, 1) := by decide +kernel
theorem dX8_back_40 : decode cX8_back 40 = .ok (.putfield 172, 3) := by decide +kernel
theorem dX8_back_43 : decode cX8_back 43 = .ok (.aload_n 0, 1) := by decide +kernel
theorem dX8_back_44 : decode cX8_back 44 = .ok (.getfield 7, 3) := by decide +kernel
theorem dX8_back_47 : decode cX8_back 47 = .ok (.iconst 0, 1) := by decide +kernel
theorem dX8_back_48 : decode cX8_back 48 = .ok (.iaload, 1) := by decide +kernel
theorem dX8_back_49 : decode cX8_back 49 = .ok (.ireturn, 1) := by decide +kernel
theorem dX8_floor_0 : decode cX8_floor 0 = .ok (.iload_n 0, 1) := by decide +kernel
theorem dX8_floor_1 : decode cX8_floor 1 = .ok (.ifCond .lt 9, 3) := by decide +kernel
theorem dX8_floor_4 : decode cX8_floor 4 = .ok (.iload_n 0, 1) := by decide +kernel
theorem dX8_floor_5 : decode cX8_floor 5 = .ok (.iload_n 1, 1) := by decide +kernel
theorem dX8_floor_6 : decode cX8_floor 6 = .ok (.idiv, 1) := by decide +kernel
theorem dX8_floor_7 : decode cX8_floor 7 = .ok (.goto 11, 3) := by decide +kernel
theorem dX8_floor_10 : decode cX8_floor 10 = .ok (.iload_n 1, 1) := by decide +kernel
theorem dX8_floor_11 : decode cX8_floor 11 = .ok (.iconst 1, 1) := by decide +kernel
theorem dX8_floor_12 : decode cX8_floor 12 = .ok (.isub, 1) := by decide +kernel
theorem dX8_floor_13 : decode cX8_floor 13 = .ok (.iload_n 0, 1) := by decide +kernel
theorem dX8_floor_14 : decode cX8_floor 14 = .ok (.isub, 1) := by decide +kernel
theorem dX8_floor_15 : decode cX8_floor 15 = .ok (.iload_n 1, 1) := by decide +kernel
theorem dX8_floor_16 : decode cX8_floor 16 = .ok (.idiv, 1) := by decide +kernel
theorem dX8_floor_17 : decode cX8_floor 17 = .ok (.ineg, 1) := by decide +kernel
theorem dX8_floor_18 : decode cX8_floor 18 = .ok (.ireturn, 1) := by decide +kernel
theorem dX8_layBounds_0 : decode cX8_layBounds 0 = .ok (.iconst 0, 1) := by decide +kernel
theorem dX8_layBounds_1 : decode cX8_layBounds 1 = .ok (.istore_n 3, 1) := by decide +kernel
theorem dX8_layBounds_2 : decode cX8_layBounds 2 = .ok (.iload_n 3, 1) := by decide +kernel
theorem dX8_layBounds_3 : decode cX8_layBounds 3 = .ok (.aload_n 0, 1) := by decide +kernel
theorem dX8_layBounds_4 : decode cX8_layBounds 4 = .ok (.getfield 88, 3) := by decide +kernel
theorem dX8_layBounds_7 : decode cX8_layBounds 7 = .ok (.if_icmp .ge 50, 3) := by decide +kernel
theorem dX8_layBounds_10 : decode cX8_layBounds 10 = .ok (.aload_n 0, 1) := by decide +kernel
theorem dX8_layBounds_11 : decode cX8_layBounds 11 = .ok (.getfield 61, 3) := by decide +kernel
theorem dX8_layBounds_14 : decode cX8_layBounds 14 = .ok (.iload_n 3, 1) := by decide +kernel
theorem dX8_layBounds_15 : decode cX8_layBounds 15 = .ok (.aload_n 0, 1) := by decide +kernel
theorem dX8_layBounds_16 : decode cX8_layBounds 16 = .ok (.iload_n 3, 1) := by decide +kernel
theorem dX8_layBounds_17 : decode cX8_layBounds 17 = .ok (.iload_n 1, 1) := by decide +kernel
theorem dX8_layBounds_18 : decode cX8_layBounds 18 = .ok (.invokevirtual 178, 3) := by decide +kernel
theorem dX8_layBounds_21 : decode cX8_layBounds 21 = .ok (.iload_n 2, 1) := by decide +kernel
theorem dX8_layBounds_22 : decode cX8_layBounds 22 = .ok (.isub, 1) := by decide +kernel
theorem dX8_layBounds_23 : decode cX8_layBounds 23 = .ok (.aload_n 0, 1) := by decide +kernel
theorem dX8_layBounds_24 : decode cX8_layBounds 24 = .ok (.getfield 97, 3) := by decide +kernel
theorem dX8_layBounds_27 : decode cX8_layBounds 27 = .ok (.invokestatic 193, 3) := by decide +kernel
theorem dX8_layBounds_30 : decode cX8_layBounds 30 = .ok (.iastore, 1) := by decide +kernel
theorem dX8_layBounds_31 : decode cX8_layBounds 31 = .ok (.aload_n 0, 1) := by decide +kernel
theorem dX8_layBounds_32 : decode cX8_layBounds 32 = .ok (.getfield 64, 3) := by decide +kernel
theorem dX8_layBounds_35 : decode cX8_layBounds 35 = .ok (.iload_n 3, 1) := by decide +kernel
theorem dX8_layBounds_36 : decode cX8_layBounds 36 = .ok (.aload_n 0, 1) := by decide +kernel
theorem dX8_layBounds_37 : decode cX8_layBounds 37 = .ok (.iload_n 3, 1) := by decide +kernel
theorem dX8_layBounds_38 : decode cX8_layBounds 38 = .ok (.invokevirtual 182, 3) := by decide +kernel
theorem dX8_layBounds_41 : decode cX8_layBounds 41 = .ok (.iload_n 2, 1) := by decide +kernel
theorem dX8_layBounds_42 : decode cX8_layBounds 42 = .ok (.isub, 1) := by decide +kernel
theorem dX8_layBounds_43 : decode cX8_layBounds 43 = .ok (.aload_n 0, 1) := by decide +kernel
theorem dX8_layBounds_44 : decode cX8_layBounds 44 = .ok (.getfield 97, 3) := by decide +kernel
theorem dX8_layBounds_47 : decode cX8_layBounds 47 = .ok (.invokestatic 193, 3) := by decide +kernel
theorem dX8_layBounds_50 : decode cX8_layBounds 50 = .ok (.iastore, 1) := by decide +kernel
theorem dX8_layBounds_51 : decode cX8_layBounds 51 = .ok (.iinc 3 1, 3) := by decide +kernel
theorem dX8_layBounds_54 : decode cX8_layBounds 54 = .ok (.goto (-52), 3) := by decide +kernel
theorem dX8_layBounds_57 : decode cX8_layBounds 57 = .ok (.return_, 1) := by decide +kernel
theorem dX8_makesLess_0 : decode cX8_makesLess 0 = .ok (.aload_n 0, 1) := by decide +kernel
theorem dX8_makesLess_1 : decode cX8_makesLess 1 = .ok (.getfield 67, 3) := by decide +kernel
theorem dX8_makesLess_4 : decode cX8_makesLess 4 = .ok (.iload_n 1, 1) := by decide +kernel
theorem dX8_makesLess_5 : decode cX8_makesLess 5 = .ok (.iaload, 1) := by decide +kernel
theorem dX8_makesLess_6 : decode cX8_makesLess 6 = .ok (.aload_n 0, 1) := by decide +kernel
theorem dX8_makesLess_7 : decode cX8_makesLess 7 = .ok (.getfield 67, 3) := by decide +kernel
theorem dX8_makesLess_10 : decode cX8_makesLess 10 = .ok (.iload_n 2, 1) := by decide +kernel
theorem dX8_makesLess_11 : decode cX8_makesLess 11 = .ok (.iaload, 1) := by decide +kernel
theorem dX8_makesLess_12 : decode cX8_makesLess 12 = .ok (.iload_n 3, 1) := by decide +kernel
theorem dX8_makesLess_13 : decode cX8_makesLess 13 = .ok (.iadd, 1) := by decide +kernel
theorem dX8_makesLess_14 : decode cX8_makesLess 14 = .ok (.if_icmp .le 7, 3) := by decide +kernel
theorem dX8_makesLess_17 : decode cX8_makesLess 17 = .ok (.iconst 1, 1) := by decide +kernel
theorem dX8_makesLess_18 : decode cX8_makesLess 18 = .ok (.goto 4, 3) := by decide +kernel
theorem dX8_makesLess_21 : decode cX8_makesLess 21 = .ok (.iconst 0, 1) := by decide +kernel
theorem dX8_makesLess_22 : decode cX8_makesLess 22 = .ok (.istore 4, 2) := by decide +kernel
theorem dX8_makesLess_24 : decode cX8_makesLess 24 = .ok (.aload_n 0, 1) := by decide +kernel
theorem dX8_makesLess_25 : decode cX8_makesLess 25 = .ok (.getfield 67, 3) := by decide +kernel
theorem dX8_makesLess_28 : decode cX8_makesLess 28 = .ok (.iload_n 1, 1) := by decide +kernel
theorem dX8_makesLess_29 : decode cX8_makesLess 29 = .ok (.iload 4, 2) := by decide +kernel
theorem dX8_makesLess_31 : decode cX8_makesLess 31 = .ok (.ifCond .eq 14, 3) := by decide +kernel
theorem dX8_makesLess_34 : decode cX8_makesLess 34 = .ok (.aload_n 0, 1) := by decide +kernel
theorem dX8_makesLess_35 : decode cX8_makesLess 35 = .ok (.getfield 67, 3) := by decide +kernel
theorem dX8_makesLess_38 : decode cX8_makesLess 38 = .ok (.iload_n 2, 1) := by decide +kernel
theorem dX8_makesLess_39 : decode cX8_makesLess 39 = .ok (.iaload, 1) := by decide +kernel
theorem dX8_makesLess_40 : decode cX8_makesLess 40 = .ok (.iload_n 3, 1) := by decide +kernel
theorem dX8_makesLess_41 : decode cX8_makesLess 41 = .ok (.iadd, 1) := by decide +kernel
theorem dX8_makesLess_42 : decode cX8_makesLess 42 = .ok (.goto 9, 3) := by decide +kernel
theorem dX8_makesLess_45 : decode cX8_makesLess 45 = .ok (.aload_n 0, 1) := by decide +kernel
theorem dX8_makesLess_46 : decode cX8_makesLess 46 = .ok (.getfield 67, 3) := by decide +kernel
theorem dX8_makesLess_49 : decode cX8_makesLess 49 = .ok (.iload_n 1, 1) := by decide +kernel
theorem dX8_makesLess_50 : decode cX8_makesLess 50 = .ok (.iaload, 1) := by decide +kernel
theorem dX8_makesLess_51 : decode cX8_makesLess 51 = .ok (.iastore, 1) := by decide +kernel
theorem dX8_makesLess_52 : decode cX8_makesLess 52 = .ok (.iload 4, 2) := by decide +kernel
theorem dX8_makesLess_54 : decode cX8_makesLess 54 = .ok (.ireturn, 1) := by decide +kernel
theorem dX8_areThere_0 : decode cX8_areThere 0 = .ok (.iconst 0, 1) := by decide +kernel
theorem dX8_areThere_1 : decode cX8_areThere 1 = .ok (.istore_n 1, 1) := by decide +kernel
theorem dX8_areThere_2 : decode cX8_areThere 2 = .ok (.iload_n 1, 1) := by decide +kernel
theorem dX8_areThere_3 : decode cX8_areThere 3 = .ok (.bipush 8, 2) := by decide +kernel
theorem dX8_areThere_5 : decode cX8_areThere 5 = .ok (.if_icmp .ge 16, 3) := by decide +kernel
theorem dX8_areThere_8 : decode cX8_areThere 8 = .ok (.aload_n 0, 1) := by decide +kernel
theorem dX8_areThere_9 : decode cX8_areThere 9 = .ok (.getfield 67, 3) := by decide +kernel
theorem dX8_areThere_12 : decode cX8_areThere 12 = .ok (.iload_n 1, 1) := by decide +kernel
theorem dX8_areThere_13 : decode cX8_areThere 13 = .ok (.iconst 0, 1) := by decide +kernel
theorem dX8_areThere_14 : decode cX8_areThere 14 = .ok (.iastore, 1) := by decide +kernel
theorem dX8_areThere_15 : decode cX8_areThere 15 = .ok (.iinc 1 1, 3) := by decide +kernel
theorem dX8_areThere_18 : decode cX8_areThere 18 = .ok (.goto (-16), 3) := by decide +kernel
theorem dX8_areThere_21 : decode cX8_areThere 21 = .ok (.iconst 1, 1) := by decide +kernel
theorem dX8_areThere_22 : decode cX8_areThere 22 = .ok (.istore_n 1, 1) := by decide +kernel
theorem dX8_areThere_23 : decode cX8_areThere 23 = .ok (.iconst 0, 1) := by decide +kernel
theorem dX8_areThere_24 : decode cX8_areThere 24 = .ok (.istore_n 2, 1) := by decide +kernel
theorem dX8_areThere_25 : decode cX8_areThere 25 = .ok (.iload_n 2, 1) := by decide +kernel
theorem dX8_areThere_26 : decode cX8_areThere 26 = .ok (.aload_n 0, 1) := by decide +kernel
theorem dX8_areThere_27 : decode cX8_areThere 27 = .ok (.getfield 84, 3) := by decide +kernel
theorem dX8_areThere_30 : decode cX8_areThere 30 = .ok (.if_icmp .gt 101, 3) := by decide +kernel
theorem dX8_areThere_33 : decode cX8_areThere 33 = .ok (.iload_n 1, 1) := by decide +kernel
theorem dX8_areThere_34 : decode cX8_areThere 34 = .ok (.ifCond .eq 97, 3) := by decide +kernel
theorem dX8_areThere_37 : decode cX8_areThere 37 = .ok (.iconst 0, 1) := by decide +kernel
theorem dX8_areThere_38 : decode cX8_areThere 38 = .ok (.istore_n 1, 1) := by decide +kernel
theorem dX8_areThere_39 : decode cX8_areThere 39 = .ok (.iconst 0, 1) := by decide +kernel
theorem dX8_areThere_40 : decode cX8_areThere 40 = .ok (.istore_n 3, 1) := by decide +kernel
theorem dX8_areThere_41 : decode cX8_areThere 41 = .ok (.iload_n 3, 1) := by decide +kernel
theorem dX8_areThere_42 : decode cX8_areThere 42 = .ok (.aload_n 0, 1) := by decide +kernel
theorem dX8_areThere_43 : decode cX8_areThere 43 = .ok (.getfield 88, 3) := by decide +kernel
theorem dX8_areThere_46 : decode cX8_areThere 46 = .ok (.if_icmp .ge 79, 3) := by decide +kernel
theorem dX8_areThere_49 : decode cX8_areThere 49 = .ok (.aload_n 0, 1) := by decide +kernel
theorem dX8_areThere_50 : decode cX8_areThere 50 = .ok (.aload_n 0, 1) := by decide +kernel
theorem dX8_areThere_51 : decode cX8_areThere 51 = .ok (.getfield 13, 3) := by decide +kernel
theorem dX8_areThere_54 : decode cX8_areThere 54 = .ok (.iload_n 3, 1) := by decide +kernel
theorem dX8_areThere_55 : decode cX8_areThere 55 = .ok (.iaload, 1) := by decide +kernel
theorem dX8_areThere_56 : decode cX8_areThere 56 = .ok (.aload_n 0, 1) := by decide +kernel
theorem dX8_areThere_57 : decode cX8_areThere 57 = .ok (.getfield 16, 3) := by decide +kernel
theorem dX8_areThere_60 : decode cX8_areThere 60 = .ok (.iload_n 3, 1) := by decide +kernel
theorem dX8_areThere_61 : decode cX8_areThere 61 = .ok (.iaload, 1) := by decide +kernel
theorem dX8_areThere_62 : decode cX8_areThere 62 = .ok (.aload_n 0, 1) := by decide +kernel
theorem dX8_areThere_63 : decode cX8_areThere 63 = .ok (.getfield 61, 3) := by decide +kernel
theorem dX8_areThere_66 : decode cX8_areThere 66 = .ok (.iload_n 3, 1) := by decide +kernel
theorem dX8_areThere_67 : decode cX8_areThere 67 = .ok (.iaload, 1) := by decide +kernel
theorem dX8_areThere_68 : decode cX8_areThere 68 = .ok (.invokevirtual 196, 3) := by decide +kernel
theorem dX8_areThere_71 : decode cX8_areThere 71 = .ok (.ifCond .ne 7, 3) := by decide +kernel
theorem dX8_areThere_74 : decode cX8_areThere 74 = .ok (.iload_n 1, 1) := by decide +kernel
theorem dX8_areThere_75 : decode cX8_areThere 75 = .ok (.ifCond .eq 7, 3) := by decide +kernel
theorem dX8_areThere_78 : decode cX8_areThere 78 = .ok (.iconst 1, 1) := by decide +kernel
theorem dX8_areThere_79 : decode cX8_areThere 79 = .ok (.goto 4, 3) := by decide +kernel
theorem dX8_areThere_82 : decode cX8_areThere 82 = .ok (.iconst 0, 1) := by decide +kernel
theorem dX8_areThere_83 : decode cX8_areThere 83 = .ok (.istore_n 1, 1) := by decide +kernel
theorem dX8_areThere_84 : decode cX8_areThere 84 = .ok (.aload_n 0, 1) := by decide +kernel
theorem dX8_areThere_85 : decode cX8_areThere 85 = .ok (.aload_n 0, 1) := by decide +kernel
theorem dX8_areThere_86 : decode cX8_areThere 86 = .ok (.getfield 16, 3) := by decide +kernel
theorem dX8_areThere_89 : decode cX8_areThere 89 = .ok (.iload_n 3, 1) := by decide +kernel
theorem dX8_areThere_90 : decode cX8_areThere 90 = .ok (.iaload, 1) := by decide +kernel
theorem dX8_areThere_91 : decode cX8_areThere 91 = .ok (.aload_n 0, 1) := by decide +kernel
theorem dX8_areThere_92 : decode cX8_areThere 92 = .ok (.getfield 13, 3) := by decide +kernel
theorem dX8_areThere_95 : decode cX8_areThere 95 = .ok (.iload_n 3, 1) := by decide +kernel
theorem dX8_areThere_96 : decode cX8_areThere 96 = .ok (.iaload, 1) := by decide +kernel
theorem dX8_areThere_97 : decode cX8_areThere 97 = .ok (.aload_n 0, 1) := by decide +kernel
theorem dX8_areThere_98 : decode cX8_areThere 98 = .ok (.getfield 64, 3) := by decide +kernel
theorem dX8_areThere_101 : decode cX8_areThere 101 = .ok (.iload_n 3, 1) := by decide +kernel
theorem dX8_areThere_102 : decode cX8_areThere 102 = .ok (.iaload, 1) := by decide +kernel
theorem dX8_areThere_103 : decode cX8_areThere 103 = .ok (.invokevirtual 196, 3) := by decide +kernel
theorem dX8_areThere_106 : decode cX8_areThere 106 = .ok (.ifCond .ne 7, 3) := by decide +kernel
theorem dX8_areThere_109 : decode cX8_areThere 109 = .ok (.iload_n 1, 1) := by decide +kernel
theorem dX8_areThere_110 : decode cX8_areThere 110 = .ok (.ifCond .eq 7, 3) := by decide +kernel
theorem dX8_areThere_113 : decode cX8_areThere 113 = .ok (.iconst 1, 1) := by decide +kernel
theorem dX8_areThere_114 : decode cX8_areThere 114 = .ok (.goto 4, 3) := by decide +kernel
theorem dX8_areThere_117 : decode cX8_areThere 117 = .ok (.iconst 0, 1) := by decide +kernel
theorem dX8_areThere_118 : decode cX8_areThere 118 = .ok (.istore_n 1, 1) := by decide +kernel
theorem dX8_areThere_119 : decode cX8_areThere 119 = .ok (.iinc 3 1, 3) := by decide +kernel
theorem dX8_areThere_122 : decode cX8_areThere 122 = .ok (.goto (-81), 3) := by decide +kernel
theorem dX8_areThere_125 : decode cX8_areThere 125 = .ok (.iinc 2 1, 3) := by decide +kernel
theorem dX8_areThere_128 : decode cX8_areThere 128 = .ok (.goto (-103), 3) := by decide +kernel
theorem dX8_areThere_131 : decode cX8_areThere 131 = .ok (.iload_n 1, 1) := by decide +kernel
theorem dX8_areThere_132 : decode cX8_areThere 132 = .ok (.ifCond .ne 7, 3) := by decide +kernel
theorem dX8_areThere_135 : decode cX8_areThere 135 = .ok (.iconst 1, 1) := by decide +kernel
theorem dX8_areThere_136 : decode cX8_areThere 136 = .ok (.goto 4, 3) := by decide +kernel
theorem dX8_areThere_139 : decode cX8_areThere 139 = .ok (.iconst 0, 1) := by decide +kernel
theorem dX8_areThere_140 : decode cX8_areThere 140 = .ok (.ireturn, 1) := by decide +kernel
theorem dX8_isFeasible_0 : decode cX8_isFeasible 0 = .ok (.aload_n 0, 1) := by decide +kernel
theorem dX8_isFeasible_1 : decode cX8_isFeasible 1 = .ok (.iload_n 1, 1) := by decide +kernel
theorem dX8_isFeasible_2 : decode cX8_isFeasible 2 = .ok (.iload_n 2, 1) := by decide +kernel
theorem dX8_isFeasible_3 : decode cX8_isFeasible 3 = .ok (.invokevirtual 199, 3) := by decide +kernel
theorem dX8_isFeasible_6 : decode cX8_isFeasible 6 = .ok (.aload_n 0, 1) := by decide +kernel
theorem dX8_isFeasible_7 : decode cX8_isFeasible 7 = .ok (.invokevirtual 202, 3) := by decide +kernel
theorem dX8_isFeasible_10 : decode cX8_isFeasible 10 = .ok (.ireturn, 1) := by decide +kernel
theorem dX8_feasible_0 : decode cX8_feasible 0 = .ok (.aload_n 0, 1) := by decide +kernel
theorem dX8_feasible_1 : decode cX8_feasible 1 = .ok (.aload_n 0, 1) := by decide +kernel
theorem dX8_feasible_2 : decode cX8_feasible 2 = .ok (.getfield 7, 3) := by decide +kernel
theorem dX8_feasible_5 : decode cX8_feasible 5 = .ok (.iconst 0, 1) := by decide +kernel
theorem dX8_feasible_6 : decode cX8_feasible 6 = .ok (.iaload, 1) := by decide +kernel
theorem dX8_feasible_7 : decode cX8_feasible 7 = .ok (.iconst 0, 1) := by decide +kernel
theorem dX8_feasible_8 : decode cX8_feasible 8 = .ok (.invokevirtual 205, 3) := by decide +kernel
theorem dX8_feasible_11 : decode cX8_feasible 11 = .ok (.ifCond .eq 7, 3) := by decide +kernel
theorem dX8_feasible_14 : decode cX8_feasible 14 = .ok (.iconst 1, 1) := by decide +kernel
theorem dX8_feasible_15 : decode cX8_feasible 15 = .ok (.goto 4, 3) := by decide +kernel
theorem dX8_feasible_18 : decode cX8_feasible 18 = .ok (.iconst 0, 1) := by decide +kernel
theorem dX8_feasible_19 : decode cX8_feasible 19 = .ok (.ireturn, 1) := by decide +kernel
theorem dX8_shift_0 : decode cX8_shift 0 = .ok (.aload_n 0, 1) := by decide +kernel
theorem dX8_shift_1 : decode cX8_shift 1 = .ok (.iload_n 1, 1) := by decide +kernel
theorem dX8_shift_2 : decode cX8_shift 2 = .ok (.invokevirtual 209, 3) := by decide +kernel
theorem dX8_shift_5 : decode cX8_shift 5 = .ok (.ifCond .ne 8, 3) := by decide +kernel
theorem dX8_shift_8 : decode cX8_shift 8 = .ok (.bipush (-2), 2) := by decide +kernel
theorem dX8_shift_10 : decode cX8_shift 10 = .ok (.goto 34, 3) := by decide +kernel
theorem dX8_shift_13 : decode cX8_shift 13 = .ok (.aload_n 0, 1) := by decide +kernel
theorem dX8_shift_14 : decode cX8_shift 14 = .ok (.aload_n 0, 1) := by decide +kernel
theorem dX8_shift_15 : decode cX8_shift 15 = .ok (.getfield 7, 3) := by decide +kernel
theorem dX8_shift_18 : decode cX8_shift 18 = .ok (.iconst 0, 1) := by decide +kernel
theorem dX8_shift_19 : decode cX8_shift 19 = .ok (.iaload, 1) := by decide +kernel
theorem dX8_shift_20 : decode cX8_shift 20 = .ok (.iconst 0, 1) := by decide +kernel
theorem dX8_shift_21 : decode cX8_shift 21 = .ok (.invokevirtual 205, 3) := by decide +kernel
theorem dX8_shift_24 : decode cX8_shift 24 = .ok (.ifCond .eq 18, 3) := by decide +kernel
theorem dX8_shift_27 : decode cX8_shift 27 = .ok (.aload_n 0, 1) := by decide +kernel
theorem dX8_shift_28 : decode cX8_shift 28 = .ok (.getfield 67, 3) := by decide +kernel
theorem dX8_shift_31 : decode cX8_shift 31 = .ok (.iload_n 1, 1) := by decide +kernel
theorem dX8_shift_32 : decode cX8_shift 32 = .ok (.iaload, 1) := by decide +kernel
theorem dX8_shift_33 : decode cX8_shift 33 = .ok (.ineg, 1) := by decide +kernel
theorem dX8_shift_34 : decode cX8_shift 34 = .ok (.aload_n 0, 1) := by decide +kernel
theorem dX8_shift_35 : decode cX8_shift 35 = .ok (.getfield 97, 3) := by decide +kernel
theorem dX8_shift_38 : decode cX8_shift 38 = .ok (.imul, 1) := by decide +kernel
theorem dX8_shift_39 : decode cX8_shift 39 = .ok (.goto 5, 3) := by decide +kernel
theorem dX8_shift_42 : decode cX8_shift 42 = .ok (.bipush (-4), 2) := by decide +kernel
theorem dX8_shift_44 : decode cX8_shift 44 = .ok (.ireturn, 1) := by decide +kernel
theorem dX8_leastOf_0 : decode cX8_leastOf 0 = .ok (.aload_n 0, 1) := by decide +kernel
theorem dX8_leastOf_1 : decode cX8_leastOf 1 = .ok (.sipush 999, 3) := by decide +kernel
theorem dX8_leastOf_4 : decode cX8_leastOf 4 = .ok (.iconst 0, 1) := by decide +kernel
theorem dX8_leastOf_5 : decode cX8_leastOf 5 = .ok (.invokevirtual 205, 3) := by decide +kernel
theorem dX8_leastOf_8 : decode cX8_leastOf 8 = .ok (.ifCond .ne 5, 3) := by decide +kernel
theorem dX8_leastOf_11 : decode cX8_leastOf 11 = .ok (.iconst (-1), 1) := by decide +kernel
theorem dX8_leastOf_12 : decode cX8_leastOf 12 = .ok (.ireturn, 1) := by decide +kernel
theorem dX8_leastOf_13 : decode cX8_leastOf 13 = .ok (.iconst 0, 1) := by decide +kernel
theorem dX8_leastOf_14 : decode cX8_leastOf 14 = .ok (.istore_n 1, 1) := by decide +kernel
theorem dX8_leastOf_15 : decode cX8_leastOf 15 = .ok (.sipush 999, 3) := by decide +kernel
theorem dX8_leastOf_18 : decode cX8_leastOf 18 = .ok (.istore_n 2, 1) := by decide +kernel
theorem dX8_leastOf_19 : decode cX8_leastOf 19 = .ok (.iload_n 1, 1) := by decide +kernel
theorem dX8_leastOf_20 : decode cX8_leastOf 20 = .ok (.iload_n 2, 1) := by decide +kernel
theorem dX8_leastOf_21 : decode cX8_leastOf 21 = .ok (.if_icmp .ge 44, 3) := by decide +kernel
theorem dX8_leastOf_24 : decode cX8_leastOf 24 = .ok (.iload_n 1, 1) := by decide +kernel
theorem dX8_leastOf_25 : decode cX8_leastOf 25 = .ok (.iload_n 2, 1) := by decide +kernel
theorem dX8_leastOf_26 : decode cX8_leastOf 26 = .ok (.iadd, 1) := by decide +kernel
theorem dX8_leastOf_27 : decode cX8_leastOf 27 = .ok (.iconst 2, 1) := by decide +kernel
theorem dX8_leastOf_28 : decode cX8_leastOf 28 = .ok (.idiv, 1) := by decide +kernel
theorem dX8_leastOf_29 : decode cX8_leastOf 29 = .ok (.istore_n 3, 1) := by decide +kernel
theorem dX8_leastOf_30 : decode cX8_leastOf 30 = .ok (.aload_n 0, 1) := by decide +kernel
theorem dX8_leastOf_31 : decode cX8_leastOf 31 = .ok (.iload_n 3, 1) := by decide +kernel
theorem dX8_leastOf_32 : decode cX8_leastOf 32 = .ok (.iconst 0, 1) := by decide +kernel
theorem dX8_leastOf_33 : decode cX8_leastOf 33 = .ok (.invokevirtual 205, 3) := by decide +kernel
theorem dX8_leastOf_36 : decode cX8_leastOf 36 = .ok (.istore 4, 2) := by decide +kernel
theorem dX8_leastOf_38 : decode cX8_leastOf 38 = .ok (.iload 4, 2) := by decide +kernel
theorem dX8_leastOf_40 : decode cX8_leastOf 40 = .ok (.ifCond .eq 7, 3) := by decide +kernel
theorem dX8_leastOf_43 : decode cX8_leastOf 43 = .ok (.iload_n 3, 1) := by decide +kernel
theorem dX8_leastOf_44 : decode cX8_leastOf 44 = .ok (.goto 4, 3) := by decide +kernel
theorem dX8_leastOf_47 : decode cX8_leastOf 47 = .ok (.iload_n 2, 1) := by decide +kernel
theorem dX8_leastOf_48 : decode cX8_leastOf 48 = .ok (.istore_n 2, 1) := by decide +kernel
theorem dX8_leastOf_49 : decode cX8_leastOf 49 = .ok (.iload 4, 2) := by decide +kernel
theorem dX8_leastOf_51 : decode cX8_leastOf 51 = .ok (.ifCond .eq 7, 3) := by decide +kernel
theorem dX8_leastOf_54 : decode cX8_leastOf 54 = .ok (.iload_n 1, 1) := by decide +kernel
theorem dX8_leastOf_55 : decode cX8_leastOf 55 = .ok (.goto 6, 3) := by decide +kernel
theorem dX8_leastOf_58 : decode cX8_leastOf 58 = .ok (.iload_n 3, 1) := by decide +kernel
theorem dX8_leastOf_59 : decode cX8_leastOf 59 = .ok (.iconst 1, 1) := by decide +kernel
theorem dX8_leastOf_60 : decode cX8_leastOf 60 = .ok (.iadd, 1) := by decide +kernel
theorem dX8_leastOf_61 : decode cX8_leastOf 61 = .ok (.istore_n 1, 1) := by decide +kernel
theorem dX8_leastOf_62 : decode cX8_leastOf 62 = .ok (.goto (-43), 3) := by decide +kernel
theorem dX8_leastOf_65 : decode cX8_leastOf 65 = .ok (.iload_n 1, 1) := by decide +kernel
theorem dX8_leastOf_66 : decode cX8_leastOf 66 = .ok (.ireturn, 1) := by decide +kernel
theorem dX8_least_0 : decode cX8_least 0 = .ok (.aload_n 0, 1) := by decide +kernel
theorem dX8_least_1 : decode cX8_least 1 = .ok (.invokevirtual 212, 3) := by decide +kernel
theorem dX8_least_4 : decode cX8_least 4 = .ok (.ireturn, 1) := by decide +kernel
theorem dX8_isFeasibleBy_0 : decode cX8_isFeasibleBy 0 = .ok (.iconst 0, 1) := by decide +kernel
theorem dX8_isFeasibleBy_1 : decode cX8_isFeasibleBy 1 = .ok (.istore_n 3, 1) := by decide +kernel
theorem dX8_isFeasibleBy_2 : decode cX8_isFeasibleBy 2 = .ok (.iload_n 3, 1) := by decide +kernel
theorem dX8_isFeasibleBy_3 : decode cX8_isFeasibleBy 3 = .ok (.aload_n 0, 1) := by decide +kernel
theorem dX8_isFeasibleBy_4 : decode cX8_isFeasibleBy 4 = .ok (.getfield 88, 3) := by decide +kernel
theorem dX8_isFeasibleBy_7 : decode cX8_isFeasibleBy 7 = .ok (.if_icmp .ge 45, 3) := by decide +kernel
theorem dX8_isFeasibleBy_10 : decode cX8_isFeasibleBy 10 = .ok (.aload_n 0, 1) := by decide +kernel
theorem dX8_isFeasibleBy_11 : decode cX8_isFeasibleBy 11 = .ok (.getfield 61, 3) := by decide +kernel
theorem dX8_isFeasibleBy_14 : decode cX8_isFeasibleBy 14 = .ok (.iload_n 3, 1) := by decide +kernel
theorem dX8_isFeasibleBy_15 : decode cX8_isFeasibleBy 15 = .ok (.iload_n 1, 1) := by decide +kernel
theorem dX8_isFeasibleBy_16 : decode cX8_isFeasibleBy 16 = .ok (.iload_n 2, 1) := by decide +kernel
theorem dX8_isFeasibleBy_17 : decode cX8_isFeasibleBy 17 = .ok (.aload_n 0, 1) := by decide +kernel
theorem dX8_isFeasibleBy_18 : decode cX8_isFeasibleBy 18 = .ok (.getfield 7, 3) := by decide +kernel
theorem dX8_isFeasibleBy_21 : decode cX8_isFeasibleBy 21 = .ok (.iconst 1, 1) := by decide +kernel
theorem dX8_isFeasibleBy_22 : decode cX8_isFeasibleBy 22 = .ok (.iload_n 3, 1) := by decide +kernel
theorem dX8_isFeasibleBy_23 : decode cX8_isFeasibleBy 23 = .ok (.iadd, 1) := by decide +kernel
theorem dX8_isFeasibleBy_24 : decode cX8_isFeasibleBy 24 = .ok (.iaload, 1) := by decide +kernel
theorem dX8_isFeasibleBy_25 : decode cX8_isFeasibleBy 25 = .ok (.aload_n 0, 1) := by decide +kernel
theorem dX8_isFeasibleBy_26 : decode cX8_isFeasibleBy 26 = .ok (.getfield 91, 3) := by decide +kernel
theorem dX8_isFeasibleBy_29 : decode cX8_isFeasibleBy 29 = .ok (.iadd, 1) := by decide +kernel
theorem dX8_isFeasibleBy_30 : decode cX8_isFeasibleBy 30 = .ok (.imul, 1) := by decide +kernel
theorem dX8_isFeasibleBy_31 : decode cX8_isFeasibleBy 31 = .ok (.isub, 1) := by decide +kernel
theorem dX8_isFeasibleBy_32 : decode cX8_isFeasibleBy 32 = .ok (.iastore, 1) := by decide +kernel
theorem dX8_isFeasibleBy_33 : decode cX8_isFeasibleBy 33 = .ok (.aload_n 0, 1) := by decide +kernel
theorem dX8_isFeasibleBy_34 : decode cX8_isFeasibleBy 34 = .ok (.getfield 64, 3) := by decide +kernel
theorem dX8_isFeasibleBy_37 : decode cX8_isFeasibleBy 37 = .ok (.iload_n 3, 1) := by decide +kernel
theorem dX8_isFeasibleBy_38 : decode cX8_isFeasibleBy 38 = .ok (.iload_n 2, 1) := by decide +kernel
theorem dX8_isFeasibleBy_39 : decode cX8_isFeasibleBy 39 = .ok (.aload_n 0, 1) := by decide +kernel
theorem dX8_isFeasibleBy_40 : decode cX8_isFeasibleBy 40 = .ok (.iload_n 3, 1) := by decide +kernel
theorem dX8_isFeasibleBy_41 : decode cX8_isFeasibleBy 41 = .ok (.invokevirtual 182, 3) := by decide +kernel
theorem dX8_isFeasibleBy_44 : decode cX8_isFeasibleBy 44 = .ok (.imul, 1) := by decide +kernel
theorem dX8_isFeasibleBy_45 : decode cX8_isFeasibleBy 45 = .ok (.iastore, 1) := by decide +kernel
theorem dX8_isFeasibleBy_46 : decode cX8_isFeasibleBy 46 = .ok (.iinc 3 1, 3) := by decide +kernel
theorem dX8_isFeasibleBy_49 : decode cX8_isFeasibleBy 49 = .ok (.goto (-47), 3) := by decide +kernel
theorem dX8_isFeasibleBy_52 : decode cX8_isFeasibleBy 52 = .ok (.aload_n 0, 1) := by decide +kernel
theorem dX8_isFeasibleBy_53 : decode cX8_isFeasibleBy 53 = .ok (.invokevirtual 202, 3) := by decide +kernel
theorem dX8_isFeasibleBy_56 : decode cX8_isFeasibleBy 56 = .ok (.ireturn, 1) := by decide +kernel
theorem dX8_rate_0 : decode cX8_rate 0 = .ok (.iload_n 1, 1) := by decide +kernel
theorem dX8_rate_1 : decode cX8_rate 1 = .ok (.i2l, 1) := by decide +kernel
theorem dX8_rate_2 : decode cX8_rate 2 = .ok (.lconst 0, 1) := by decide +kernel
theorem dX8_rate_3 : decode cX8_rate 3 = .ok (.lconst 1, 1) := by decide +kernel
theorem dX8_rate_4 : decode cX8_rate 4 = .ok (.invokestatic 102, 3) := by decide +kernel
theorem dX8_rate_7 : decode cX8_rate 7 = .ok (.ifCond .ne 6, 3) := by decide +kernel
theorem dX8_rate_10 : decode cX8_rate 10 = .ok (.bipush (-3), 2) := by decide +kernel
theorem dX8_rate_12 : decode cX8_rate 12 = .ok (.ireturn, 1) := by decide +kernel
theorem dX8_rate_13 : decode cX8_rate 13 = .ok (.aload_n 0, 1) := by decide +kernel
theorem dX8_rate_14 : decode cX8_rate 14 = .ok (.sipush 4000, 3) := by decide +kernel
theorem dX8_rate_17 : decode cX8_rate 17 = .ok (.iconst 1, 1) := by decide +kernel
theorem dX8_rate_18 : decode cX8_rate 18 = .ok (.invokevirtual 215, 3) := by decide +kernel
theorem dX8_rate_21 : decode cX8_rate 21 = .ok (.ifCond .ne 5, 3) := by decide +kernel
theorem dX8_rate_24 : decode cX8_rate 24 = .ok (.iconst (-1), 1) := by decide +kernel
theorem dX8_rate_25 : decode cX8_rate 25 = .ok (.ireturn, 1) := by decide +kernel
theorem dX8_rate_26 : decode cX8_rate 26 = .ok (.sipush 4000, 3) := by decide +kernel
theorem dX8_rate_29 : decode cX8_rate 29 = .ok (.istore_n 2, 1) := by decide +kernel
theorem dX8_rate_30 : decode cX8_rate 30 = .ok (.iconst 1, 1) := by decide +kernel
theorem dX8_rate_31 : decode cX8_rate 31 = .ok (.istore_n 3, 1) := by decide +kernel
theorem dX8_rate_32 : decode cX8_rate 32 = .ok (.iconst 1, 1) := by decide +kernel
theorem dX8_rate_33 : decode cX8_rate 33 = .ok (.istore 4, 2) := by decide +kernel
theorem dX8_rate_35 : decode cX8_rate 35 = .ok (.iload 4, 2) := by decide +kernel
theorem dX8_rate_37 : decode cX8_rate 37 = .ok (.aload_n 0, 1) := by decide +kernel
theorem dX8_rate_38 : decode cX8_rate 38 = .ok (.getfield 84, 3) := by decide +kernel
theorem dX8_rate_41 : decode cX8_rate 41 = .ok (.if_icmp .gt 96, 3) := by decide +kernel
theorem dX8_rate_44 : decode cX8_rate 44 = .ok (.iconst 0, 1) := by decide +kernel
theorem dX8_rate_45 : decode cX8_rate 45 = .ok (.istore 5, 2) := by decide +kernel
theorem dX8_rate_47 : decode cX8_rate 47 = .ok (.sipush 4000, 3) := by decide +kernel
theorem dX8_rate_50 : decode cX8_rate 50 = .ok (.iload 4, 2) := by decide +kernel
theorem dX8_rate_52 : decode cX8_rate 52 = .ok (.imul, 1) := by decide +kernel
theorem dX8_rate_53 : decode cX8_rate 53 = .ok (.istore 6, 2) := by decide +kernel
theorem dX8_rate_55 : decode cX8_rate 55 = .ok (.iload 5, 2) := by decide +kernel
theorem dX8_rate_57 : decode cX8_rate 57 = .ok (.iload 6, 2) := by decide +kernel
theorem dX8_rate_59 : decode cX8_rate 59 = .ok (.if_icmp .ge 55, 3) := by decide +kernel
theorem dX8_rate_62 : decode cX8_rate 62 = .ok (.iload 5, 2) := by decide +kernel
theorem dX8_rate_64 : decode cX8_rate 64 = .ok (.iload 6, 2) := by decide +kernel
theorem dX8_rate_66 : decode cX8_rate 66 = .ok (.iadd, 1) := by decide +kernel
theorem dX8_rate_67 : decode cX8_rate 67 = .ok (.iconst 2, 1) := by decide +kernel
theorem dX8_rate_68 : decode cX8_rate 68 = .ok (.idiv, 1) := by decide +kernel
theorem dX8_rate_69 : decode cX8_rate 69 = .ok (.istore 7, 2) := by decide +kernel
theorem dX8_rate_71 : decode cX8_rate 71 = .ok (.aload_n 0, 1) := by decide +kernel
theorem dX8_rate_72 : decode cX8_rate 72 = .ok (.iload 7, 2) := by decide +kernel
theorem dX8_rate_74 : decode cX8_rate 74 = .ok (.iload 4, 2) := by decide +kernel
theorem dX8_rate_76 : decode cX8_rate 76 = .ok (.invokevirtual 215, 3) := by decide +kernel
theorem dX8_rate_79 : decode cX8_rate 79 = .ok (.istore 8, 2) := by decide +kernel
theorem dX8_rate_81 : decode cX8_rate 81 = .ok (.iload 8, 2) := by decide +kernel
theorem dX8_rate_83 : decode cX8_rate 83 = .ok (.ifCond .eq 8, 3) := by decide +kernel
theorem dX8_rate_86 : decode cX8_rate 86 = .ok (.iload 7, 2) := by decide +kernel
theorem dX8_rate_88 : decode cX8_rate 88 = .ok (.goto 5, 3) := by decide +kernel
theorem dX8_rate_91 : decode cX8_rate 91 = .ok (.iload 6, 2) := by decide +kernel
theorem dX8_rate_93 : decode cX8_rate 93 = .ok (.istore 6, 2) := by decide +kernel
theorem dX8_rate_95 : decode cX8_rate 95 = .ok (.iload 8, 2) := by decide +kernel
theorem dX8_rate_97 : decode cX8_rate 97 = .ok (.ifCond .eq 8, 3) := by decide +kernel
theorem dX8_rate_100 : decode cX8_rate 100 = .ok (.iload 5, 2) := by decide +kernel
theorem dX8_rate_102 : decode cX8_rate 102 = .ok (.goto 7, 3) := by decide +kernel
theorem dX8_rate_105 : decode cX8_rate 105 = .ok (.iload 7, 2) := by decide +kernel
theorem dX8_rate_107 : decode cX8_rate 107 = .ok (.iconst 1, 1) := by decide +kernel
theorem dX8_rate_108 : decode cX8_rate 108 = .ok (.iadd, 1) := by decide +kernel
theorem dX8_rate_109 : decode cX8_rate 109 = .ok (.istore 5, 2) := by decide +kernel
theorem dX8_rate_111 : decode cX8_rate 111 = .ok (.goto (-56), 3) := by decide +kernel
theorem dX8_rate_114 : decode cX8_rate 114 = .ok (.iload 5, 2) := by decide +kernel
theorem dX8_rate_116 : decode cX8_rate 116 = .ok (.iload_n 3, 1) := by decide +kernel
theorem dX8_rate_117 : decode cX8_rate 117 = .ok (.imul, 1) := by decide +kernel
theorem dX8_rate_118 : decode cX8_rate 118 = .ok (.iload_n 2, 1) := by decide +kernel
theorem dX8_rate_119 : decode cX8_rate 119 = .ok (.iload 4, 2) := by decide +kernel
theorem dX8_rate_121 : decode cX8_rate 121 = .ok (.imul, 1) := by decide +kernel
theorem dX8_rate_122 : decode cX8_rate 122 = .ok (.if_icmp .ge 9, 3) := by decide +kernel
theorem dX8_rate_125 : decode cX8_rate 125 = .ok (.iload 5, 2) := by decide +kernel
theorem dX8_rate_127 : decode cX8_rate 127 = .ok (.istore_n 2, 1) := by decide +kernel
theorem dX8_rate_128 : decode cX8_rate 128 = .ok (.iload 4, 2) := by decide +kernel
theorem dX8_rate_130 : decode cX8_rate 130 = .ok (.istore_n 3, 1) := by decide +kernel
theorem dX8_rate_131 : decode cX8_rate 131 = .ok (.iinc 4 1, 3) := by decide +kernel
theorem dX8_rate_134 : decode cX8_rate 134 = .ok (.goto (-99), 3) := by decide +kernel
theorem dX8_rate_137 : decode cX8_rate 137 = .ok (.iload_n 2, 1) := by decide +kernel
theorem dX8_rate_138 : decode cX8_rate 138 = .ok (.istore 4, 2) := by decide +kernel
theorem dX8_rate_140 : decode cX8_rate 140 = .ok (.iload_n 3, 1) := by decide +kernel
theorem dX8_rate_141 : decode cX8_rate 141 = .ok (.istore 5, 2) := by decide +kernel
theorem dX8_rate_143 : decode cX8_rate 143 = .ok (.iload 5, 2) := by decide +kernel
theorem dX8_rate_145 : decode cX8_rate 145 = .ok (.ifCond .eq 21, 3) := by decide +kernel
theorem dX8_rate_148 : decode cX8_rate 148 = .ok (.iload 4, 2) := by decide +kernel
theorem dX8_rate_150 : decode cX8_rate 150 = .ok (.iload 5, 2) := by decide +kernel
theorem dX8_rate_152 : decode cX8_rate 152 = .ok (.irem, 1) := by decide +kernel
theorem dX8_rate_153 : decode cX8_rate 153 = .ok (.istore 6, 2) := by decide +kernel
theorem dX8_rate_155 : decode cX8_rate 155 = .ok (.iload 5, 2) := by decide +kernel
theorem dX8_rate_157 : decode cX8_rate 157 = .ok (.istore 4, 2) := by decide +kernel
theorem dX8_rate_159 : decode cX8_rate 159 = .ok (.iload 6, 2) := by decide +kernel
theorem dX8_rate_161 : decode cX8_rate 161 = .ok (.istore 5, 2) := by decide +kernel
theorem dX8_rate_163 : decode cX8_rate 163 = .ok (.goto (-20), 3) := by decide +kernel
theorem dX8_rate_166 : decode cX8_rate 166 = .ok (.iload_n 1, 1) := by decide +kernel
theorem dX8_rate_167 : decode cX8_rate 167 = .ok (.ifCond .ne 10, 3) := by decide +kernel
theorem dX8_rate_170 : decode cX8_rate 170 = .ok (.iload_n 2, 1) := by decide +kernel
theorem dX8_rate_171 : decode cX8_rate 171 = .ok (.iload 4, 2) := by decide +kernel
theorem dX8_rate_173 : decode cX8_rate 173 = .ok (.idiv, 1) := by decide +kernel
theorem dX8_rate_174 : decode cX8_rate 174 = .ok (.goto 7, 3) := by decide +kernel
theorem dX8_rate_177 : decode cX8_rate 177 = .ok (.iload_n 3, 1) := by decide +kernel
theorem dX8_rate_178 : decode cX8_rate 178 = .ok (.iload 4, 2) := by decide +kernel
theorem dX8_rate_180 : decode cX8_rate 180 = .ok (.idiv, 1) := by decide +kernel
theorem dX8_rate_181 : decode cX8_rate 181 = .ok (.ireturn, 1) := by decide +kernel
theorem dX8_margin_0 : decode cX8_margin 0 = .ok (.sipush (-1200), 3) := by decide +kernel
theorem dX8_margin_3 : decode cX8_margin 3 = .ok (.istore_n 1, 1) := by decide +kernel
theorem dX8_margin_4 : decode cX8_margin 4 = .ok (.sipush 1200, 3) := by decide +kernel
theorem dX8_margin_7 : decode cX8_margin 7 = .ok (.istore_n 2, 1) := by decide +kernel
theorem dX8_margin_8 : decode cX8_margin 8 = .ok (.iload_n 1, 1) := by decide +kernel
theorem dX8_margin_9 : decode cX8_margin 9 = .ok (.iload_n 2, 1) := by decide +kernel
theorem dX8_margin_10 : decode cX8_margin 10 = .ok (.if_icmp .ge 53, 3) := by decide +kernel
theorem dX8_margin_13 : decode cX8_margin 13 = .ok (.iload_n 1, 1) := by decide +kernel
theorem dX8_margin_14 : decode cX8_margin 14 = .ok (.iload_n 2, 1) := by decide +kernel
theorem dX8_margin_15 : decode cX8_margin 15 = .ok (.iload_n 1, 1) := by decide +kernel
theorem dX8_margin_16 : decode cX8_margin 16 = .ok (.isub, 1) := by decide +kernel
theorem dX8_margin_17 : decode cX8_margin 17 = .ok (.iconst 1, 1) := by decide +kernel
theorem dX8_margin_18 : decode cX8_margin 18 = .ok (.iadd, 1) := by decide +kernel
theorem dX8_margin_19 : decode cX8_margin 19 = .ok (.iconst 2, 1) := by decide +kernel
theorem dX8_margin_20 : decode cX8_margin 20 = .ok (.idiv, 1) := by decide +kernel
theorem dX8_margin_21 : decode cX8_margin 21 = .ok (.iadd, 1) := by decide +kernel
theorem dX8_margin_22 : decode cX8_margin 22 = .ok (.istore_n 3, 1) := by decide +kernel
theorem dX8_margin_23 : decode cX8_margin 23 = .ok (.aload_n 0, 1) := by decide +kernel
theorem dX8_margin_24 : decode cX8_margin 24 = .ok (.aload_n 0, 1) := by decide +kernel
theorem dX8_margin_25 : decode cX8_margin 25 = .ok (.getfield 7, 3) := by decide +kernel
theorem dX8_margin_28 : decode cX8_margin 28 = .ok (.iconst 0, 1) := by decide +kernel
theorem dX8_margin_29 : decode cX8_margin 29 = .ok (.iaload, 1) := by decide +kernel
theorem dX8_margin_30 : decode cX8_margin 30 = .ok (.iload_n 3, 1) := by decide +kernel
theorem dX8_margin_31 : decode cX8_margin 31 = .ok (.invokevirtual 205, 3) := by decide +kernel
theorem dX8_margin_34 : decode cX8_margin 34 = .ok (.istore 4, 2) := by decide +kernel
theorem dX8_margin_36 : decode cX8_margin 36 = .ok (.iload 4, 2) := by decide +kernel
theorem dX8_margin_38 : decode cX8_margin 38 = .ok (.ifCond .eq 7, 3) := by decide +kernel
theorem dX8_margin_41 : decode cX8_margin 41 = .ok (.iload_n 3, 1) := by decide +kernel
theorem dX8_margin_42 : decode cX8_margin 42 = .ok (.goto 4, 3) := by decide +kernel
theorem dX8_margin_45 : decode cX8_margin 45 = .ok (.iload_n 1, 1) := by decide +kernel
theorem dX8_margin_46 : decode cX8_margin 46 = .ok (.istore_n 1, 1) := by decide +kernel
theorem dX8_margin_47 : decode cX8_margin 47 = .ok (.iload 4, 2) := by decide +kernel
theorem dX8_margin_49 : decode cX8_margin 49 = .ok (.ifCond .eq 7, 3) := by decide +kernel
theorem dX8_margin_52 : decode cX8_margin 52 = .ok (.iload_n 2, 1) := by decide +kernel
theorem dX8_margin_53 : decode cX8_margin 53 = .ok (.goto 6, 3) := by decide +kernel
theorem dX8_margin_56 : decode cX8_margin 56 = .ok (.iload_n 3, 1) := by decide +kernel
theorem dX8_margin_57 : decode cX8_margin 57 = .ok (.iconst 1, 1) := by decide +kernel
theorem dX8_margin_58 : decode cX8_margin 58 = .ok (.isub, 1) := by decide +kernel
theorem dX8_margin_59 : decode cX8_margin 59 = .ok (.istore_n 2, 1) := by decide +kernel
theorem dX8_margin_60 : decode cX8_margin 60 = .ok (.goto (-52), 3) := by decide +kernel
theorem dX8_margin_63 : decode cX8_margin 63 = .ok (.iload_n 1, 1) := by decide +kernel
theorem dX8_margin_64 : decode cX8_margin 64 = .ok (.sipush 2000, 3) := by decide +kernel
theorem dX8_margin_67 : decode cX8_margin 67 = .ok (.iadd, 1) := by decide +kernel
theorem dX8_margin_68 : decode cX8_margin 68 = .ok (.ireturn, 1) := by decide +kernel
theorem dX8_spare_0 : decode cX8_spare 0 = .ok (.aload_n 0, 1) := by decide +kernel
theorem dX8_spare_1 : decode cX8_spare 1 = .ok (.iload_n 1, 1) := by decide +kernel
theorem dX8_spare_2 : decode cX8_spare 2 = .ok (.invokevirtual 175, 3) := by decide +kernel
theorem dX8_spare_5 : decode cX8_spare 5 = .ok (.ifCond .ne 6, 3) := by decide +kernel
theorem dX8_spare_8 : decode cX8_spare 8 = .ok (.bipush (-2), 2) := by decide +kernel
theorem dX8_spare_10 : decode cX8_spare 10 = .ok (.ireturn, 1) := by decide +kernel
theorem dX8_spare_11 : decode cX8_spare 11 = .ok (.iload_n 2, 1) := by decide +kernel
theorem dX8_spare_12 : decode cX8_spare 12 = .ok (.i2l, 1) := by decide +kernel
theorem dX8_spare_13 : decode cX8_spare 13 = .ok (.lconst 0, 1) := by decide +kernel
theorem dX8_spare_14 : decode cX8_spare 14 = .ok (.lconst 1, 1) := by decide +kernel
theorem dX8_spare_15 : decode cX8_spare 15 = .ok (.invokestatic 102, 3) := by decide +kernel
theorem dX8_spare_18 : decode cX8_spare 18 = .ok (.ifCond .ne 6, 3) := by decide +kernel
theorem dX8_spare_21 : decode cX8_spare 21 = .ok (.bipush (-3), 2) := by decide +kernel
theorem dX8_spare_23 : decode cX8_spare 23 = .ok (.ireturn, 1) := by decide +kernel
theorem dX8_spare_24 : decode cX8_spare 24 = .ok (.aload_n 0, 1) := by decide +kernel
theorem dX8_spare_25 : decode cX8_spare 25 = .ok (.aload_n 0, 1) := by decide +kernel
theorem dX8_spare_26 : decode cX8_spare 26 = .ok (.getfield 7, 3) := by decide +kernel
theorem dX8_spare_29 : decode cX8_spare 29 = .ok (.iconst 0, 1) := by decide +kernel
theorem dX8_spare_30 : decode cX8_spare 30 = .ok (.iaload, 1) := by decide +kernel
theorem dX8_spare_31 : decode cX8_spare 31 = .ok (.iconst 0, 1) := by decide +kernel
theorem dX8_spare_32 : decode cX8_spare 32 = .ok (.invokevirtual 205, 3) := by decide +kernel
theorem dX8_spare_35 : decode cX8_spare 35 = .ok (.ifCond .ne 6, 3) := by decide +kernel
theorem dX8_spare_38 : decode cX8_spare 38 = .ok (.bipush (-4), 2) := by decide +kernel
theorem dX8_spare_40 : decode cX8_spare 40 = .ok (.ireturn, 1) := by decide +kernel
theorem dX8_spare_41 : decode cX8_spare 41 = .ok (.aload_n 0, 1) := by decide +kernel
theorem dX8_spare_42 : decode cX8_spare 42 = .ok (.getfield 67, 3) := by decide +kernel
theorem dX8_spare_45 : decode cX8_spare 45 = .ok (.aload_n 0, 1) := by decide +kernel
theorem dX8_spare_46 : decode cX8_spare 46 = .ok (.getfield 13, 3) := by decide +kernel
theorem dX8_spare_49 : decode cX8_spare 49 = .ok (.iload_n 1, 1) := by decide +kernel
theorem dX8_spare_50 : decode cX8_spare 50 = .ok (.iaload, 1) := by decide +kernel
theorem dX8_spare_51 : decode cX8_spare 51 = .ok (.iaload, 1) := by decide +kernel
theorem dX8_spare_52 : decode cX8_spare 52 = .ok (.aload_n 0, 1) := by decide +kernel
theorem dX8_spare_53 : decode cX8_spare 53 = .ok (.getfield 67, 3) := by decide +kernel
theorem dX8_spare_56 : decode cX8_spare 56 = .ok (.aload_n 0, 1) := by decide +kernel
theorem dX8_spare_57 : decode cX8_spare 57 = .ok (.getfield 16, 3) := by decide +kernel
theorem dX8_spare_60 : decode cX8_spare 60 = .ok (.iload_n 1, 1) := by decide +kernel
theorem dX8_spare_61 : decode cX8_spare 61 = .ok (.iaload, 1) := by decide +kernel
theorem dX8_spare_62 : decode cX8_spare 62 = .ok (.iaload, 1) := by decide +kernel
theorem dX8_spare_63 : decode cX8_spare 63 = .ok (.isub, 1) := by decide +kernel
theorem dX8_spare_64 : decode cX8_spare 64 = .ok (.aload_n 0, 1) := by decide +kernel
theorem dX8_spare_65 : decode cX8_spare 65 = .ok (.getfield 97, 3) := by decide +kernel
theorem dX8_spare_68 : decode cX8_spare 68 = .ok (.imul, 1) := by decide +kernel
theorem dX8_spare_69 : decode cX8_spare 69 = .ok (.istore_n 3, 1) := by decide +kernel
theorem dX8_spare_70 : decode cX8_spare 70 = .ok (.iload_n 2, 1) := by decide +kernel
theorem dX8_spare_71 : decode cX8_spare 71 = .ok (.ifCond .ne 19, 3) := by decide +kernel
theorem dX8_spare_74 : decode cX8_spare 74 = .ok (.aload_n 0, 1) := by decide +kernel
theorem dX8_spare_75 : decode cX8_spare 75 = .ok (.iload_n 1, 1) := by decide +kernel
theorem dX8_spare_76 : decode cX8_spare 76 = .ok (.aload_n 0, 1) := by decide +kernel
theorem dX8_spare_77 : decode cX8_spare 77 = .ok (.getfield 7, 3) := by decide +kernel
theorem dX8_spare_80 : decode cX8_spare 80 = .ok (.iconst 0, 1) := by decide +kernel
theorem dX8_spare_81 : decode cX8_spare 81 = .ok (.iaload, 1) := by decide +kernel
theorem dX8_spare_82 : decode cX8_spare 82 = .ok (.invokevirtual 178, 3) := by decide +kernel
theorem dX8_spare_85 : decode cX8_spare 85 = .ok (.iload_n 3, 1) := by decide +kernel
theorem dX8_spare_86 : decode cX8_spare 86 = .ok (.isub, 1) := by decide +kernel
theorem dX8_spare_87 : decode cX8_spare 87 = .ok (.goto 10, 3) := by decide +kernel
theorem dX8_spare_90 : decode cX8_spare 90 = .ok (.aload_n 0, 1) := by decide +kernel
theorem dX8_spare_91 : decode cX8_spare 91 = .ok (.iload_n 1, 1) := by decide +kernel
theorem dX8_spare_92 : decode cX8_spare 92 = .ok (.invokevirtual 182, 3) := by decide +kernel
theorem dX8_spare_95 : decode cX8_spare 95 = .ok (.iload_n 3, 1) := by decide +kernel
theorem dX8_spare_96 : decode cX8_spare 96 = .ok (.iadd, 1) := by decide +kernel
theorem dX8_spare_97 : decode cX8_spare 97 = .ok (.ireturn, 1) := by decide +kernel
theorem dX8_layLeast_0 : decode cX8_layLeast 0 = .ok (.aload_n 0, 1) := by decide +kernel
theorem dX8_layLeast_1 : decode cX8_layLeast 1 = .ok (.aload_n 0, 1) := by decide +kernel
theorem dX8_layLeast_2 : decode cX8_layLeast 2 = .ok (.getfield 7, 3) := by decide +kernel
theorem dX8_layLeast_5 : decode cX8_layLeast 5 = .ok (.iconst 0, 1) := by decide +kernel
theorem dX8_layLeast_6 : decode cX8_layLeast 6 = .ok (.iaload, 1) := by decide +kernel
theorem dX8_layLeast_7 : decode cX8_layLeast 7 = .ok (.iconst 0, 1) := by decide +kernel
theorem dX8_layLeast_8 : decode cX8_layLeast 8 = .ok (.invokevirtual 199, 3) := by decide +kernel
theorem dX8_layLeast_11 : decode cX8_layLeast 11 = .ok (.iconst 0, 1) := by decide +kernel
theorem dX8_layLeast_12 : decode cX8_layLeast 12 = .ok (.istore_n 1, 1) := by decide +kernel
theorem dX8_layLeast_13 : decode cX8_layLeast 13 = .ok (.iload_n 1, 1) := by decide +kernel
theorem dX8_layLeast_14 : decode cX8_layLeast 14 = .ok (.bipush 64, 2) := by decide +kernel
theorem dX8_layLeast_16 : decode cX8_layLeast 16 = .ok (.if_icmp .ge 17, 3) := by decide +kernel
theorem dX8_layLeast_19 : decode cX8_layLeast 19 = .ok (.aload_n 0, 1) := by decide +kernel
theorem dX8_layLeast_20 : decode cX8_layLeast 20 = .ok (.getfield 70, 3) := by decide +kernel
theorem dX8_layLeast_23 : decode cX8_layLeast 23 = .ok (.iload_n 1, 1) := by decide +kernel
theorem dX8_layLeast_24 : decode cX8_layLeast 24 = .ok (.ldc 218, 2) := by decide +kernel
theorem dX8_layLeast_26 : decode cX8_layLeast 26 = .ok (.iastore, 1) := by decide +kernel
theorem dX8_layLeast_27 : decode cX8_layLeast 27 = .ok (.iinc 1 1, 3) := by decide +kernel
theorem dX8_layLeast_30 : decode cX8_layLeast 30 = .ok (.goto (-17), 3) := by decide +kernel
theorem dX8_layLeast_33 : decode cX8_layLeast 33 = .ok (.iconst 0, 1) := by decide +kernel
theorem dX8_layLeast_34 : decode cX8_layLeast 34 = .ok (.istore_n 1, 1) := by decide +kernel
theorem dX8_layLeast_35 : decode cX8_layLeast 35 = .ok (.iload_n 1, 1) := by decide +kernel
theorem dX8_layLeast_36 : decode cX8_layLeast 36 = .ok (.aload_n 0, 1) := by decide +kernel
theorem dX8_layLeast_37 : decode cX8_layLeast 37 = .ok (.getfield 88, 3) := by decide +kernel
theorem dX8_layLeast_40 : decode cX8_layLeast 40 = .ok (.if_icmp .ge 115, 3) := by decide +kernel
theorem dX8_layLeast_43 : decode cX8_layLeast 43 = .ok (.bipush 8, 2) := by decide +kernel
theorem dX8_layLeast_45 : decode cX8_layLeast 45 = .ok (.aload_n 0, 1) := by decide +kernel
theorem dX8_layLeast_46 : decode cX8_layLeast 46 = .ok (.getfield 13, 3) := by decide +kernel
theorem dX8_layLeast_49 : decode cX8_layLeast 49 = .ok (.iload_n 1, 1) := by decide +kernel
theorem dX8_layLeast_50 : decode cX8_layLeast 50 = .ok (.iaload, 1) := by decide +kernel
theorem dX8_layLeast_51 : decode cX8_layLeast 51 = .ok (.imul, 1) := by decide +kernel
theorem dX8_layLeast_52 : decode cX8_layLeast 52 = .ok (.aload_n 0, 1) := by decide +kernel
theorem dX8_layLeast_53 : decode cX8_layLeast 53 = .ok (.getfield 16, 3) := by decide +kernel
theorem dX8_layLeast_56 : decode cX8_layLeast 56 = .ok (.iload_n 1, 1) := by decide +kernel
theorem dX8_layLeast_57 : decode cX8_layLeast 57 = .ok (.iaload, 1) := by decide +kernel
theorem dX8_layLeast_58 : decode cX8_layLeast 58 = .ok (.iadd, 1) := by decide +kernel
theorem dX8_layLeast_59 : decode cX8_layLeast 59 = .ok (.istore_n 2, 1) := by decide +kernel
theorem dX8_layLeast_60 : decode cX8_layLeast 60 = .ok (.bipush 8, 2) := by decide +kernel
theorem dX8_layLeast_62 : decode cX8_layLeast 62 = .ok (.aload_n 0, 1) := by decide +kernel
theorem dX8_layLeast_63 : decode cX8_layLeast 63 = .ok (.getfield 16, 3) := by decide +kernel
theorem dX8_layLeast_66 : decode cX8_layLeast 66 = .ok (.iload_n 1, 1) := by decide +kernel
theorem dX8_layLeast_67 : decode cX8_layLeast 67 = .ok (.iaload, 1) := by decide +kernel
theorem dX8_layLeast_68 : decode cX8_layLeast 68 = .ok (.imul, 1) := by decide +kernel
theorem dX8_layLeast_69 : decode cX8_layLeast 69 = .ok (.aload_n 0, 1) := by decide +kernel
theorem dX8_layLeast_70 : decode cX8_layLeast 70 = .ok (.getfield 13, 3) := by decide +kernel
theorem dX8_layLeast_73 : decode cX8_layLeast 73 = .ok (.iload_n 1, 1) := by decide +kernel
theorem dX8_layLeast_74 : decode cX8_layLeast 74 = .ok (.iaload, 1) := by decide +kernel
theorem dX8_layLeast_75 : decode cX8_layLeast 75 = .ok (.iadd, 1) := by decide +kernel
theorem dX8_layLeast_76 : decode cX8_layLeast 76 = .ok (.istore_n 3, 1) := by decide +kernel
theorem dX8_layLeast_77 : decode cX8_layLeast 77 = .ok (.aload_n 0, 1) := by decide +kernel
theorem dX8_layLeast_78 : decode cX8_layLeast 78 = .ok (.getfield 70, 3) := by decide +kernel
theorem dX8_layLeast_81 : decode cX8_layLeast 81 = .ok (.iload_n 2, 1) := by decide +kernel
theorem dX8_layLeast_82 : decode cX8_layLeast 82 = .ok (.aload_n 0, 1) := by decide +kernel
theorem dX8_layLeast_83 : decode cX8_layLeast 83 = .ok (.getfield 61, 3) := by decide +kernel
theorem dX8_layLeast_86 : decode cX8_layLeast 86 = .ok (.iload_n 1, 1) := by decide +kernel
theorem dX8_layLeast_87 : decode cX8_layLeast 87 = .ok (.iaload, 1) := by decide +kernel
theorem dX8_layLeast_88 : decode cX8_layLeast 88 = .ok (.aload_n 0, 1) := by decide +kernel
theorem dX8_layLeast_89 : decode cX8_layLeast 89 = .ok (.getfield 70, 3) := by decide +kernel
theorem dX8_layLeast_92 : decode cX8_layLeast 92 = .ok (.iload_n 2, 1) := by decide +kernel
theorem dX8_layLeast_93 : decode cX8_layLeast 93 = .ok (.iaload, 1) := by decide +kernel
theorem dX8_layLeast_94 : decode cX8_layLeast 94 = .ok (.if_icmp .ge 12, 3) := by decide +kernel
theorem dX8_layLeast_97 : decode cX8_layLeast 97 = .ok (.aload_n 0, 1) := by decide +kernel
theorem dX8_layLeast_98 : decode cX8_layLeast 98 = .ok (.getfield 61, 3) := by decide +kernel
theorem dX8_layLeast_101 : decode cX8_layLeast 101 = .ok (.iload_n 1, 1) := by decide +kernel
theorem dX8_layLeast_102 : decode cX8_layLeast 102 = .ok (.iaload, 1) := by decide +kernel
theorem dX8_layLeast_103 : decode cX8_layLeast 103 = .ok (.goto 9, 3) := by decide +kernel
theorem dX8_layLeast_106 : decode cX8_layLeast 106 = .ok (.aload_n 0, 1) := by decide +kernel
theorem dX8_layLeast_107 : decode cX8_layLeast 107 = .ok (.getfield 70, 3) := by decide +kernel
theorem dX8_layLeast_110 : decode cX8_layLeast 110 = .ok (.iload_n 2, 1) := by decide +kernel
theorem dX8_layLeast_111 : decode cX8_layLeast 111 = .ok (.iaload, 1) := by decide +kernel
theorem dX8_layLeast_112 : decode cX8_layLeast 112 = .ok (.iastore, 1) := by decide +kernel
theorem dX8_layLeast_113 : decode cX8_layLeast 113 = .ok (.aload_n 0, 1) := by decide +kernel
theorem dX8_layLeast_114 : decode cX8_layLeast 114 = .ok (.getfield 70, 3) := by decide +kernel
theorem dX8_layLeast_117 : decode cX8_layLeast 117 = .ok (.iload_n 3, 1) := by decide +kernel
theorem dX8_layLeast_118 : decode cX8_layLeast 118 = .ok (.aload_n 0, 1) := by decide +kernel
theorem dX8_layLeast_119 : decode cX8_layLeast 119 = .ok (.getfield 64, 3) := by decide +kernel
theorem dX8_layLeast_122 : decode cX8_layLeast 122 = .ok (.iload_n 1, 1) := by decide +kernel
theorem dX8_layLeast_123 : decode cX8_layLeast 123 = .ok (.iaload, 1) := by decide +kernel
theorem dX8_layLeast_124 : decode cX8_layLeast 124 = .ok (.aload_n 0, 1) := by decide +kernel
theorem dX8_layLeast_125 : decode cX8_layLeast 125 = .ok (.getfield 70, 3) := by decide +kernel
theorem dX8_layLeast_128 : decode cX8_layLeast 128 = .ok (.iload_n 3, 1) := by decide +kernel
theorem dX8_layLeast_129 : decode cX8_layLeast 129 = .ok (.iaload, 1) := by decide +kernel
theorem dX8_layLeast_130 : decode cX8_layLeast 130 = .ok (.if_icmp .ge 12, 3) := by decide +kernel
theorem dX8_layLeast_133 : decode cX8_layLeast 133 = .ok (.aload_n 0, 1) := by decide +kernel
theorem dX8_layLeast_134 : decode cX8_layLeast 134 = .ok (.getfield 64, 3) := by decide +kernel
theorem dX8_layLeast_137 : decode cX8_layLeast 137 = .ok (.iload_n 1, 1) := by decide +kernel
theorem dX8_layLeast_138 : decode cX8_layLeast 138 = .ok (.iaload, 1) := by decide +kernel
theorem dX8_layLeast_139 : decode cX8_layLeast 139 = .ok (.goto 9, 3) := by decide +kernel
theorem dX8_layLeast_142 : decode cX8_layLeast 142 = .ok (.aload_n 0, 1) := by decide +kernel
theorem dX8_layLeast_143 : decode cX8_layLeast 143 = .ok (.getfield 70, 3) := by decide +kernel
theorem dX8_layLeast_146 : decode cX8_layLeast 146 = .ok (.iload_n 3, 1) := by decide +kernel
theorem dX8_layLeast_147 : decode cX8_layLeast 147 = .ok (.iaload, 1) := by decide +kernel
theorem dX8_layLeast_148 : decode cX8_layLeast 148 = .ok (.iastore, 1) := by decide +kernel
theorem dX8_layLeast_149 : decode cX8_layLeast 149 = .ok (.iinc 1 1, 3) := by decide +kernel
theorem dX8_layLeast_152 : decode cX8_layLeast 152 = .ok (.goto (-117), 3) := by decide +kernel
theorem dX8_layLeast_155 : decode cX8_layLeast 155 = .ok (.return_, 1) := by decide +kernel
theorem dX8_isInRing_0 : decode cX8_isInRing 0 = .ok (.iconst 0, 1) := by decide +kernel
theorem dX8_isInRing_1 : decode cX8_isInRing 1 = .ok (.istore_n 2, 1) := by decide +kernel
theorem dX8_isInRing_2 : decode cX8_isInRing 2 = .ok (.iconst 0, 1) := by decide +kernel
theorem dX8_isInRing_3 : decode cX8_isInRing 3 = .ok (.istore_n 3, 1) := by decide +kernel
theorem dX8_isInRing_4 : decode cX8_isInRing 4 = .ok (.iload_n 3, 1) := by decide +kernel
theorem dX8_isInRing_5 : decode cX8_isInRing 5 = .ok (.aload_n 0, 1) := by decide +kernel
theorem dX8_isInRing_6 : decode cX8_isInRing 6 = .ok (.getfield 219, 3) := by decide +kernel
theorem dX8_isInRing_9 : decode cX8_isInRing 9 = .ok (.if_icmp .ge 29, 3) := by decide +kernel
theorem dX8_isInRing_12 : decode cX8_isInRing 12 = .ok (.iload_n 2, 1) := by decide +kernel
theorem dX8_isInRing_13 : decode cX8_isInRing 13 = .ok (.ifCond .ne 13, 3) := by decide +kernel
theorem dX8_isInRing_16 : decode cX8_isInRing 16 = .ok (.aload_n 0, 1) := by decide +kernel
theorem dX8_isInRing_17 : decode cX8_isInRing 17 = .ok (.getfield 73, 3) := by decide +kernel
theorem dX8_isInRing_20 : decode cX8_isInRing 20 = .ok (.iload_n 3, 1) := by decide +kernel
theorem dX8_isInRing_21 : decode cX8_isInRing 21 = .ok (.iaload, 1) := by decide +kernel
theorem dX8_isInRing_22 : decode cX8_isInRing 22 = .ok (.iload_n 1, 1) := by decide +kernel
theorem dX8_isInRing_23 : decode cX8_isInRing 23 = .ok (.if_icmp .ne 7, 3) := by decide +kernel
theorem dX8_isInRing_26 : decode cX8_isInRing 26 = .ok (.iconst 1, 1) := by decide +kernel
theorem dX8_isInRing_27 : decode cX8_isInRing 27 = .ok (.goto 4, 3) := by decide +kernel
theorem dX8_isInRing_30 : decode cX8_isInRing 30 = .ok (.iconst 0, 1) := by decide +kernel
theorem dX8_isInRing_31 : decode cX8_isInRing 31 = .ok (.istore_n 2, 1) := by decide +kernel
theorem dX8_isInRing_32 : decode cX8_isInRing 32 = .ok (.iinc 3 1, 3) := by decide +kernel
theorem dX8_isInRing_35 : decode cX8_isInRing 35 = .ok (.goto (-31), 3) := by decide +kernel
theorem dX8_isInRing_38 : decode cX8_isInRing 38 = .ok (.iload_n 2, 1) := by decide +kernel
theorem dX8_isInRing_39 : decode cX8_isInRing 39 = .ok (.ireturn, 1) := by decide +kernel
theorem dX8_isBelow_0 : decode cX8_isBelow 0 = .ok (.iconst 0, 1) := by decide +kernel
theorem dX8_isBelow_1 : decode cX8_isBelow 1 = .ok (.istore_n 1, 1) := by decide +kernel
theorem dX8_isBelow_2 : decode cX8_isBelow 2 = .ok (.iconst 0, 1) := by decide +kernel
theorem dX8_isBelow_3 : decode cX8_isBelow 3 = .ok (.istore_n 2, 1) := by decide +kernel
theorem dX8_isBelow_4 : decode cX8_isBelow 4 = .ok (.iload_n 2, 1) := by decide +kernel
theorem dX8_isBelow_5 : decode cX8_isBelow 5 = .ok (.aload_n 0, 1) := by decide +kernel
theorem dX8_isBelow_6 : decode cX8_isBelow 6 = .ok (.getfield 219, 3) := by decide +kernel
theorem dX8_isBelow_9 : decode cX8_isBelow 9 = .ok (.if_icmp .ge 40, 3) := by decide +kernel
theorem dX8_isBelow_12 : decode cX8_isBelow 12 = .ok (.iload_n 1, 1) := by decide +kernel
theorem dX8_isBelow_13 : decode cX8_isBelow 13 = .ok (.aload_n 0, 1) := by decide +kernel
theorem dX8_isBelow_14 : decode cX8_isBelow 14 = .ok (.getfield 70, 3) := by decide +kernel
theorem dX8_isBelow_17 : decode cX8_isBelow 17 = .ok (.bipush 8, 2) := by decide +kernel
theorem dX8_isBelow_19 : decode cX8_isBelow 19 = .ok (.aload_n 0, 1) := by decide +kernel
theorem dX8_isBelow_20 : decode cX8_isBelow 20 = .ok (.getfield 73, 3) := by decide +kernel
theorem dX8_isBelow_23 : decode cX8_isBelow 23 = .ok (.iload_n 2, 1) := by decide +kernel
theorem dX8_isBelow_24 : decode cX8_isBelow 24 = .ok (.iaload, 1) := by decide +kernel
theorem dX8_isBelow_25 : decode cX8_isBelow 25 = .ok (.imul, 1) := by decide +kernel
theorem dX8_isBelow_26 : decode cX8_isBelow 26 = .ok (.aload_n 0, 1) := by decide +kernel
theorem dX8_isBelow_27 : decode cX8_isBelow 27 = .ok (.getfield 73, 3) := by decide +kernel
theorem dX8_isBelow_30 : decode cX8_isBelow 30 = .ok (.iload_n 2, 1) := by decide +kernel
theorem dX8_isBelow_31 : decode cX8_isBelow 31 = .ok (.iconst 1, 1) := by decide +kernel
theorem dX8_isBelow_32 : decode cX8_isBelow 32 = .ok (.iadd, 1) := by decide +kernel
theorem dX8_isBelow_33 : decode cX8_isBelow 33 = .ok (.aload_n 0, 1) := by decide +kernel
theorem dX8_isBelow_34 : decode cX8_isBelow 34 = .ok (.getfield 219, 3) := by decide +kernel
theorem dX8_isBelow_37 : decode cX8_isBelow 37 = .ok (.irem, 1) := by decide +kernel
theorem dX8_isBelow_38 : decode cX8_isBelow 38 = .ok (.iaload, 1) := by decide +kernel
theorem dX8_isBelow_39 : decode cX8_isBelow 39 = .ok (.iadd, 1) := by decide +kernel
theorem dX8_isBelow_40 : decode cX8_isBelow 40 = .ok (.iaload, 1) := by decide +kernel
theorem dX8_isBelow_41 : decode cX8_isBelow 41 = .ok (.iadd, 1) := by decide +kernel
theorem dX8_isBelow_42 : decode cX8_isBelow 42 = .ok (.istore_n 1, 1) := by decide +kernel
theorem dX8_isBelow_43 : decode cX8_isBelow 43 = .ok (.iinc 2 1, 3) := by decide +kernel
theorem dX8_isBelow_46 : decode cX8_isBelow 46 = .ok (.goto (-42), 3) := by decide +kernel
theorem dX8_isBelow_49 : decode cX8_isBelow 49 = .ok (.iload_n 1, 1) := by decide +kernel
theorem dX8_isBelow_50 : decode cX8_isBelow 50 = .ok (.ifCond .ge 7, 3) := by decide +kernel
theorem dX8_isBelow_53 : decode cX8_isBelow 53 = .ok (.iconst 1, 1) := by decide +kernel
theorem dX8_isBelow_54 : decode cX8_isBelow 54 = .ok (.goto 4, 3) := by decide +kernel
theorem dX8_isBelow_57 : decode cX8_isBelow 57 = .ok (.iconst 0, 1) := by decide +kernel
theorem dX8_isBelow_58 : decode cX8_isBelow 58 = .ok (.ireturn, 1) := by decide +kernel
theorem dX8_nextFrom_0 : decode cX8_nextFrom 0 = .ok (.iload_n 1, 1) := by decide +kernel
theorem dX8_nextFrom_1 : decode cX8_nextFrom 1 = .ok (.istore_n 2, 1) := by decide +kernel
theorem dX8_nextFrom_2 : decode cX8_nextFrom 2 = .ok (.iload_n 2, 1) := by decide +kernel
theorem dX8_nextFrom_3 : decode cX8_nextFrom 3 = .ok (.aload_n 0, 1) := by decide +kernel
theorem dX8_nextFrom_4 : decode cX8_nextFrom 4 = .ok (.getfield 84, 3) := by decide +kernel
theorem dX8_nextFrom_7 : decode cX8_nextFrom 7 = .ok (.if_icmp .ge 27, 3) := by decide +kernel
theorem dX8_nextFrom_10 : decode cX8_nextFrom 10 = .ok (.aload_n 0, 1) := by decide +kernel
theorem dX8_nextFrom_11 : decode cX8_nextFrom 11 = .ok (.iload_n 2, 1) := by decide +kernel
theorem dX8_nextFrom_12 : decode cX8_nextFrom 12 = .ok (.invokevirtual 222, 3) := by decide +kernel
theorem dX8_nextFrom_15 : decode cX8_nextFrom 15 = .ok (.ifCond .ne 13, 3) := by decide +kernel
theorem dX8_nextFrom_18 : decode cX8_nextFrom 18 = .ok (.iload_n 2, 1) := by decide +kernel
theorem dX8_nextFrom_19 : decode cX8_nextFrom 19 = .ok (.aload_n 0, 1) := by decide +kernel
theorem dX8_nextFrom_20 : decode cX8_nextFrom 20 = .ok (.getfield 73, 3) := by decide +kernel
theorem dX8_nextFrom_23 : decode cX8_nextFrom 23 = .ok (.iconst 0, 1) := by decide +kernel
theorem dX8_nextFrom_24 : decode cX8_nextFrom 24 = .ok (.iaload, 1) := by decide +kernel
theorem dX8_nextFrom_25 : decode cX8_nextFrom 25 = .ok (.if_icmp .ge 9, 3) := by decide +kernel
theorem dX8_nextFrom_28 : decode cX8_nextFrom 28 = .ok (.iinc 2 1, 3) := by decide +kernel
theorem dX8_nextFrom_31 : decode cX8_nextFrom 31 = .ok (.goto (-29), 3) := by decide +kernel
theorem dX8_nextFrom_34 : decode cX8_nextFrom 34 = .ok (.iload_n 2, 1) := by decide +kernel
theorem dX8_nextFrom_35 : decode cX8_nextFrom 35 = .ok (.aload_n 0, 1) := by decide +kernel
theorem dX8_nextFrom_36 : decode cX8_nextFrom 36 = .ok (.getfield 84, 3) := by decide +kernel
theorem dX8_nextFrom_39 : decode cX8_nextFrom 39 = .ok (.if_icmp .ge 7, 3) := by decide +kernel
theorem dX8_nextFrom_42 : decode cX8_nextFrom 42 = .ok (.iload_n 2, 1) := by decide +kernel
theorem dX8_nextFrom_43 : decode cX8_nextFrom 43 = .ok (.goto 4, 3) := by decide +kernel
theorem dX8_nextFrom_46 : decode cX8_nextFrom 46 = .ok (.iconst (-1), 1) := by decide +kernel
theorem dX8_nextFrom_47 : decode cX8_nextFrom 47 = .ok (.ireturn, 1) := by decide +kernel
theorem dX8_goOn_0 : decode cX8_goOn 0 = .ok (.aload_n 0, 1) := by decide +kernel
theorem dX8_goOn_1 : decode cX8_goOn 1 = .ok (.iconst 0, 1) := by decide +kernel
theorem dX8_goOn_2 : decode cX8_goOn 2 = .ok (.invokevirtual 225, 3) := by decide +kernel
theorem dX8_goOn_5 : decode cX8_goOn 5 = .ok (.istore_n 1, 1) := by decide +kernel
theorem dX8_goOn_6 : decode cX8_goOn 6 = .ok (.iload_n 1, 1) := by decide +kernel
theorem dX8_goOn_7 : decode cX8_goOn 7 = .ok (.iconst (-1), 1) := by decide +kernel
theorem dX8_goOn_8 : decode cX8_goOn 8 = .ok (.if_icmp .ne 40, 3) := by decide +kernel
theorem dX8_goOn_11 : decode cX8_goOn 11 = .ok (.aload_n 0, 1) := by decide +kernel
theorem dX8_goOn_12 : decode cX8_goOn 12 = .ok (.getfield 219, 3) := by decide +kernel
theorem dX8_goOn_15 : decode cX8_goOn 15 = .ok (.iconst 1, 1) := by decide +kernel
theorem dX8_goOn_16 : decode cX8_goOn 16 = .ok (.if_icmp .le 32, 3) := by decide +kernel
theorem dX8_goOn_19 : decode cX8_goOn 19 = .ok (.aload_n 0, 1) := by decide +kernel
theorem dX8_goOn_20 : decode cX8_goOn 20 = .ok (.dup, 1) := by decide +kernel
theorem dX8_goOn_21 : decode cX8_goOn 21 = .ok (.getfield 219, 3) := by decide +kernel
theorem dX8_goOn_24 : decode cX8_goOn 24 = .ok (.iconst 1, 1) := by decide +kernel
theorem dX8_goOn_25 : decode cX8_goOn 25 = .ok (.isub, 1) := by decide +kernel
theorem dX8_goOn_26 : decode cX8_goOn 26 = .ok (.putfield 219, 3) := by decide +kernel
theorem dX8_goOn_29 : decode cX8_goOn 29 = .ok (.aload_n 0, 1) := by decide +kernel
theorem dX8_goOn_30 : decode cX8_goOn 30 = .ok (.aload_n 0, 1) := by decide +kernel
theorem dX8_goOn_31 : decode cX8_goOn 31 = .ok (.getfield 73, 3) := by decide +kernel
theorem dX8_goOn_34 : decode cX8_goOn 34 = .ok (.aload_n 0, 1) := by decide +kernel
theorem dX8_goOn_35 : decode cX8_goOn 35 = .ok (.getfield 219, 3) := by decide +kernel
theorem dX8_goOn_38 : decode cX8_goOn 38 = .ok (.iaload, 1) := by decide +kernel
theorem dX8_goOn_39 : decode cX8_goOn 39 = .ok (.iconst 1, 1) := by decide +kernel
theorem dX8_goOn_40 : decode cX8_goOn 40 = .ok (.iadd, 1) := by decide +kernel
theorem dX8_goOn_41 : decode cX8_goOn 41 = .ok (.invokevirtual 225, 3) := by decide +kernel
theorem dX8_goOn_44 : decode cX8_goOn 44 = .ok (.istore_n 1, 1) := by decide +kernel
theorem dX8_goOn_45 : decode cX8_goOn 45 = .ok (.goto (-39), 3) := by decide +kernel
theorem dX8_goOn_48 : decode cX8_goOn 48 = .ok (.iload_n 1, 1) := by decide +kernel
theorem dX8_goOn_49 : decode cX8_goOn 49 = .ok (.iconst (-1), 1) := by decide +kernel
theorem dX8_goOn_50 : decode cX8_goOn 50 = .ok (.if_icmp .ne 38, 3) := by decide +kernel
theorem dX8_goOn_53 : decode cX8_goOn 53 = .ok (.aload_n 0, 1) := by decide +kernel
theorem dX8_goOn_54 : decode cX8_goOn 54 = .ok (.getfield 73, 3) := by decide +kernel
theorem dX8_goOn_57 : decode cX8_goOn 57 = .ok (.iconst 0, 1) := by decide +kernel
theorem dX8_goOn_58 : decode cX8_goOn 58 = .ok (.dup2, 1) := by decide +kernel
theorem dX8_goOn_59 : decode cX8_goOn 59 = .ok (.iaload, 1) := by decide +kernel
theorem dX8_goOn_60 : decode cX8_goOn 60 = .ok (.iconst 1, 1) := by decide +kernel
theorem dX8_goOn_61 : decode cX8_goOn 61 = .ok (.iadd, 1) := by decide +kernel
theorem dX8_goOn_62 : decode cX8_goOn 62 = .ok (.iastore, 1) := by decide +kernel
theorem dX8_goOn_63 : decode cX8_goOn 63 = .ok (.aload_n 0, 1) := by decide +kernel
theorem dX8_goOn_64 : decode cX8_goOn 64 = .ok (.aload_n 0, 1) := by decide +kernel
theorem dX8_goOn_65 : decode cX8_goOn 65 = .ok (.getfield 73, 3) := by decide +kernel
theorem dX8_goOn_68 : decode cX8_goOn 68 = .ok (.iconst 0, 1) := by decide +kernel
theorem dX8_goOn_69 : decode cX8_goOn 69 = .ok (.iaload, 1) := by decide +kernel
theorem dX8_goOn_70 : decode cX8_goOn 70 = .ok (.aload_n 0, 1) := by decide +kernel
theorem dX8_goOn_71 : decode cX8_goOn 71 = .ok (.getfield 84, 3) := by decide +kernel
theorem dX8_goOn_74 : decode cX8_goOn 74 = .ok (.if_icmp .ge 7, 3) := by decide +kernel
theorem dX8_goOn_77 : decode cX8_goOn 77 = .ok (.iconst 1, 1) := by decide +kernel
theorem dX8_goOn_78 : decode cX8_goOn 78 = .ok (.goto 4, 3) := by decide +kernel
theorem dX8_goOn_81 : decode cX8_goOn 81 = .ok (.iconst 0, 1) := by decide +kernel
theorem dX8_goOn_82 : decode cX8_goOn 82 = .ok (.putfield 219, 3) := by decide +kernel
theorem dX8_goOn_85 : decode cX8_goOn 85 = .ok (.goto 23, 3) := by decide +kernel
theorem dX8_goOn_88 : decode cX8_goOn 88 = .ok (.aload_n 0, 1) := by decide +kernel
theorem dX8_goOn_89 : decode cX8_goOn 89 = .ok (.getfield 73, 3) := by decide +kernel
theorem dX8_goOn_92 : decode cX8_goOn 92 = .ok (.aload_n 0, 1) := by decide +kernel
theorem dX8_goOn_93 : decode cX8_goOn 93 = .ok (.getfield 219, 3) := by decide +kernel
theorem dX8_goOn_96 : decode cX8_goOn 96 = .ok (.iload_n 1, 1) := by decide +kernel
theorem dX8_goOn_97 : decode cX8_goOn 97 = .ok (.iastore, 1) := by decide +kernel
theorem dX8_goOn_98 : decode cX8_goOn 98 = .ok (.aload_n 0, 1) := by decide +kernel
theorem dX8_goOn_99 : decode cX8_goOn 99 = .ok (.dup, 1) := by decide +kernel
theorem dX8_goOn_100 : decode cX8_goOn 100 = .ok (.getfield 219, 3) := by decide +kernel
theorem dX8_goOn_103 : decode cX8_goOn 103 = .ok (.iconst 1, 1) := by decide +kernel
theorem dX8_goOn_104 : decode cX8_goOn 104 = .ok (.iadd, 1) := by decide +kernel
theorem dX8_goOn_105 : decode cX8_goOn 105 = .ok (.putfield 219, 3) := by decide +kernel
theorem dX8_goOn_108 : decode cX8_goOn 108 = .ok (.return_, 1) := by decide +kernel
theorem dX8_cycle_0 : decode cX8_cycle 0 = .ok (.iload_n 1, 1) := by decide +kernel
theorem dX8_cycle_1 : decode cX8_cycle 1 = .ok (.ifCond .ge 6, 3) := by decide +kernel
theorem dX8_cycle_4 : decode cX8_cycle 4 = .ok (.bipush (-3), 2) := by decide +kernel
theorem dX8_cycle_6 : decode cX8_cycle 6 = .ok (.ireturn, 1) := by decide +kernel
theorem dX8_cycle_7 : decode cX8_cycle 7 = .ok (.aload_n 0, 1) := by decide +kernel
theorem dX8_cycle_8 : decode cX8_cycle 8 = .ok (.aload_n 0, 1) := by decide +kernel
theorem dX8_cycle_9 : decode cX8_cycle 9 = .ok (.getfield 7, 3) := by decide +kernel
theorem dX8_cycle_12 : decode cX8_cycle 12 = .ok (.iconst 0, 1) := by decide +kernel
theorem dX8_cycle_13 : decode cX8_cycle 13 = .ok (.iaload, 1) := by decide +kernel
theorem dX8_cycle_14 : decode cX8_cycle 14 = .ok (.iconst 0, 1) := by decide +kernel
theorem dX8_cycle_15 : decode cX8_cycle 15 = .ok (.invokevirtual 205, 3) := by decide +kernel
theorem dX8_cycle_18 : decode cX8_cycle 18 = .ok (.ifCond .eq 5, 3) := by decide +kernel
theorem dX8_cycle_21 : decode cX8_cycle 21 = .ok (.iconst (-1), 1) := by decide +kernel
theorem dX8_cycle_22 : decode cX8_cycle 22 = .ok (.ireturn, 1) := by decide +kernel
theorem dX8_cycle_23 : decode cX8_cycle 23 = .ok (.aload_n 0, 1) := by decide +kernel
theorem dX8_cycle_24 : decode cX8_cycle 24 = .ok (.invokevirtual 228, 3) := by decide +kernel
theorem dX8_cycle_27 : decode cX8_cycle 27 = .ok (.aload_n 0, 1) := by decide +kernel
theorem dX8_cycle_28 : decode cX8_cycle 28 = .ok (.getfield 73, 3) := by decide +kernel
theorem dX8_cycle_31 : decode cX8_cycle 31 = .ok (.iconst 0, 1) := by decide +kernel
theorem dX8_cycle_32 : decode cX8_cycle 32 = .ok (.iconst 0, 1) := by decide +kernel
theorem dX8_cycle_33 : decode cX8_cycle 33 = .ok (.iastore, 1) := by decide +kernel
theorem dX8_cycle_34 : decode cX8_cycle 34 = .ok (.aload_n 0, 1) := by decide +kernel
theorem dX8_cycle_35 : decode cX8_cycle 35 = .ok (.iconst 1, 1) := by decide +kernel
theorem dX8_cycle_36 : decode cX8_cycle 36 = .ok (.putfield 219, 3) := by decide +kernel
theorem dX8_cycle_39 : decode cX8_cycle 39 = .ok (.aload_n 0, 1) := by decide +kernel
theorem dX8_cycle_40 : decode cX8_cycle 40 = .ok (.getfield 219, 3) := by decide +kernel
theorem dX8_cycle_43 : decode cX8_cycle 43 = .ok (.ifCond .le 17, 3) := by decide +kernel
theorem dX8_cycle_46 : decode cX8_cycle 46 = .ok (.aload_n 0, 1) := by decide +kernel
theorem dX8_cycle_47 : decode cX8_cycle 47 = .ok (.invokevirtual 231, 3) := by decide +kernel
theorem dX8_cycle_50 : decode cX8_cycle 50 = .ok (.ifCond .ne 10, 3) := by decide +kernel
theorem dX8_cycle_53 : decode cX8_cycle 53 = .ok (.aload_n 0, 1) := by decide +kernel
theorem dX8_cycle_54 : decode cX8_cycle 54 = .ok (.invokevirtual 234, 3) := by decide +kernel
theorem dX8_cycle_57 : decode cX8_cycle 57 = .ok (.goto (-18), 3) := by decide +kernel
theorem dX8_cycle_60 : decode cX8_cycle 60 = .ok (.iload_n 1, 1) := by decide +kernel
theorem dX8_cycle_61 : decode cX8_cycle 61 = .ok (.aload_n 0, 1) := by decide +kernel
theorem dX8_cycle_62 : decode cX8_cycle 62 = .ok (.getfield 219, 3) := by decide +kernel
theorem dX8_cycle_65 : decode cX8_cycle 65 = .ok (.if_icmp .ge 12, 3) := by decide +kernel
theorem dX8_cycle_68 : decode cX8_cycle 68 = .ok (.aload_n 0, 1) := by decide +kernel
theorem dX8_cycle_69 : decode cX8_cycle 69 = .ok (.getfield 73, 3) := by decide +kernel
theorem dX8_cycle_72 : decode cX8_cycle 72 = .ok (.iload_n 1, 1) := by decide +kernel
theorem dX8_cycle_73 : decode cX8_cycle 73 = .ok (.iaload, 1) := by decide +kernel
theorem dX8_cycle_74 : decode cX8_cycle 74 = .ok (.goto 4, 3) := by decide +kernel
theorem dX8_cycle_77 : decode cX8_cycle 77 = .ok (.iconst (-1), 1) := by decide +kernel
theorem dX8_cycle_78 : decode cX8_cycle 78 = .ok (.ireturn, 1) := by decide +kernel
theorem dX8_buffer_0 : decode cX8_buffer 0 = .ok (.iload_n 1, 1) := by decide +kernel
theorem dX8_buffer_1 : decode cX8_buffer 1 = .ok (.i2l, 1) := by decide +kernel
theorem dX8_buffer_2 : decode cX8_buffer 2 = .ok (.lconst 1, 1) := by decide +kernel
theorem dX8_buffer_3 : decode cX8_buffer 3 = .ok (.ldc2_w 191, 3) := by decide +kernel
theorem dX8_buffer_6 : decode cX8_buffer 6 = .ok (.invokestatic 102, 3) := by decide +kernel
theorem dX8_buffer_9 : decode cX8_buffer 9 = .ok (.ifCond .ne 6, 3) := by decide +kernel
theorem dX8_buffer_12 : decode cX8_buffer 12 = .ok (.bipush (-3), 2) := by decide +kernel
theorem dX8_buffer_14 : decode cX8_buffer 14 = .ok (.ireturn, 1) := by decide +kernel
theorem dX8_buffer_15 : decode cX8_buffer 15 = .ok (.iconst (-1), 1) := by decide +kernel
theorem dX8_buffer_16 : decode cX8_buffer 16 = .ok (.istore_n 2, 1) := by decide +kernel
theorem dX8_buffer_17 : decode cX8_buffer 17 = .ok (.aload_n 0, 1) := by decide +kernel
theorem dX8_buffer_18 : decode cX8_buffer 18 = .ok (.invokevirtual 212, 3) := by decide +kernel
theorem dX8_buffer_21 : decode cX8_buffer 21 = .ok (.istore_n 3, 1) := by decide +kernel
theorem dX8_buffer_22 : decode cX8_buffer 22 = .ok (.iload_n 3, 1) := by decide +kernel
theorem dX8_buffer_23 : decode cX8_buffer 23 = .ok (.iconst (-1), 1) := by decide +kernel
theorem dX8_buffer_24 : decode cX8_buffer 24 = .ok (.if_icmp .ne 8, 3) := by decide +kernel
theorem dX8_buffer_27 : decode cX8_buffer 27 = .ok (.ldc 218, 2) := by decide +kernel
theorem dX8_buffer_29 : decode cX8_buffer 29 = .ok (.goto 4, 3) := by decide +kernel
theorem dX8_buffer_32 : decode cX8_buffer 32 = .ok (.iload_n 3, 1) := by decide +kernel
theorem dX8_buffer_33 : decode cX8_buffer 33 = .ok (.istore 4, 2) := by decide +kernel
theorem dX8_buffer_35 : decode cX8_buffer 35 = .ok (.iconst 0, 1) := by decide +kernel
theorem dX8_buffer_36 : decode cX8_buffer 36 = .ok (.istore 5, 2) := by decide +kernel
theorem dX8_buffer_38 : decode cX8_buffer 38 = .ok (.iload 5, 2) := by decide +kernel
theorem dX8_buffer_40 : decode cX8_buffer 40 = .ok (.aload_n 0, 1) := by decide +kernel
theorem dX8_buffer_41 : decode cX8_buffer 41 = .ok (.getfield 88, 3) := by decide +kernel
theorem dX8_buffer_44 : decode cX8_buffer 44 = .ok (.if_icmp .ge 132, 3) := by decide +kernel
theorem dX8_buffer_47 : decode cX8_buffer 47 = .ok (.aload_n 0, 1) := by decide +kernel
theorem dX8_buffer_48 : decode cX8_buffer 48 = .ok (.getfield 7, 3) := by decide +kernel
theorem dX8_buffer_51 : decode cX8_buffer 51 = .ok (.iconst 1, 1) := by decide +kernel
theorem dX8_buffer_52 : decode cX8_buffer 52 = .ok (.iload 5, 2) := by decide +kernel
theorem dX8_buffer_54 : decode cX8_buffer 54 = .ok (.iadd, 1) := by decide +kernel
theorem dX8_buffer_55 : decode cX8_buffer 55 = .ok (.iaload, 1) := by decide +kernel
theorem dX8_buffer_56 : decode cX8_buffer 56 = .ok (.iload_n 1, 1) := by decide +kernel
theorem dX8_buffer_57 : decode cX8_buffer 57 = .ok (.iadd, 1) := by decide +kernel
theorem dX8_buffer_58 : decode cX8_buffer 58 = .ok (.sipush 200, 3) := by decide +kernel
theorem dX8_buffer_61 : decode cX8_buffer 61 = .ok (.if_icmp .ge 109, 3) := by decide +kernel
theorem dX8_buffer_64 : decode cX8_buffer 64 = .ok (.aload_n 0, 1) := by decide +kernel
theorem dX8_buffer_65 : decode cX8_buffer 65 = .ok (.getfield 7, 3) := by decide +kernel
theorem dX8_buffer_68 : decode cX8_buffer 68 = .ok (.iconst 1, 1) := by decide +kernel
theorem dX8_buffer_69 : decode cX8_buffer 69 = .ok (.iload 5, 2) := by decide +kernel
theorem dX8_buffer_71 : decode cX8_buffer 71 = .ok (.iadd, 1) := by decide +kernel
theorem dX8_buffer_72 : decode cX8_buffer 72 = .ok (.dup2, 1) := by decide +kernel
theorem dX8_buffer_73 : decode cX8_buffer 73 = .ok (.iaload, 1) := by decide +kernel
theorem dX8_buffer_74 : decode cX8_buffer 74 = .ok (.iload_n 1, 1) := by decide +kernel
theorem dX8_buffer_75 : decode cX8_buffer 75 = .ok (.iadd, 1) := by decide +kernel
theorem dX8_buffer_76 : decode cX8_buffer 76 = .ok (.iastore, 1) := by decide +kernel
theorem dX8_buffer_77 : decode cX8_buffer 77 = .ok (.aload_n 0, 1) := by decide +kernel
theorem dX8_buffer_78 : decode cX8_buffer 78 = .ok (.getfield 7, 3) := by decide +kernel
theorem dX8_buffer_81 : decode cX8_buffer 81 = .ok (.bipush 17, 2) := by decide +kernel
theorem dX8_buffer_83 : decode cX8_buffer 83 = .ok (.iload 5, 2) := by decide +kernel
theorem dX8_buffer_85 : decode cX8_buffer 85 = .ok (.iadd, 1) := by decide +kernel
theorem dX8_buffer_86 : decode cX8_buffer 86 = .ok (.dup2, 1) := by decide +kernel
theorem dX8_buffer_87 : decode cX8_buffer 87 = .ok (.iaload, 1) := by decide +kernel
theorem dX8_buffer_88 : decode cX8_buffer 88 = .ok (.iload_n 1, 1) := by decide +kernel
theorem dX8_buffer_89 : decode cX8_buffer 89 = .ok (.iadd, 1) := by decide +kernel
theorem dX8_buffer_90 : decode cX8_buffer 90 = .ok (.iastore, 1) := by decide +kernel
theorem dX8_buffer_91 : decode cX8_buffer 91 = .ok (.aload_n 0, 1) := by decide +kernel
theorem dX8_buffer_92 : decode cX8_buffer 92 = .ok (.invokevirtual 212, 3) := by decide +kernel
theorem dX8_buffer_95 : decode cX8_buffer 95 = .ok (.istore 6, 2) := by decide +kernel
theorem dX8_buffer_97 : decode cX8_buffer 97 = .ok (.aload_n 0, 1) := by decide +kernel
theorem dX8_buffer_98 : decode cX8_buffer 98 = .ok (.getfield 7, 3) := by decide +kernel
theorem dX8_buffer_101 : decode cX8_buffer 101 = .ok (.iconst 1, 1) := by decide +kernel
theorem dX8_buffer_102 : decode cX8_buffer 102 = .ok (.iload 5, 2) := by decide +kernel
theorem dX8_buffer_104 : decode cX8_buffer 104 = .ok (.iadd, 1) := by decide +kernel
theorem dX8_buffer_105 : decode cX8_buffer 105 = .ok (.dup2, 1) := by decide +kernel
theorem dX8_buffer_106 : decode cX8_buffer 106 = .ok (.iaload, 1) := by decide +kernel
theorem dX8_buffer_107 : decode cX8_buffer 107 = .ok (.iload_n 1, 1) := by decide +kernel
theorem dX8_buffer_108 : decode cX8_buffer 108 = .ok (.isub, 1) := by decide +kernel
theorem dX8_buffer_109 : decode cX8_buffer 109 = .ok (.iastore, 1) := by decide +kernel
theorem dX8_buffer_110 : decode cX8_buffer 110 = .ok (.aload_n 0, 1) := by decide +kernel
theorem dX8_buffer_111 : decode cX8_buffer 111 = .ok (.getfield 7, 3) := by decide +kernel
theorem dX8_buffer_114 : decode cX8_buffer 114 = .ok (.bipush 17, 2) := by decide +kernel
theorem dX8_buffer_116 : decode cX8_buffer 116 = .ok (.iload 5, 2) := by decide +kernel
theorem dX8_buffer_118 : decode cX8_buffer 118 = .ok (.iadd, 1) := by decide +kernel
theorem dX8_buffer_119 : decode cX8_buffer 119 = .ok (.dup2, 1) := by decide +kernel
theorem dX8_buffer_120 : decode cX8_buffer 120 = .ok (.iaload, 1) := by decide +kernel
theorem dX8_buffer_121 : decode cX8_buffer 121 = .ok (.iload_n 1, 1) := by decide +kernel
theorem dX8_buffer_122 : decode cX8_buffer 122 = .ok (.isub, 1) := by decide +kernel
theorem dX8_buffer_123 : decode cX8_buffer 123 = .ok (.iastore, 1) := by decide +kernel
theorem dX8_buffer_124 : decode cX8_buffer 124 = .ok (.iload 6, 2) := by decide +kernel
theorem dX8_buffer_126 : decode cX8_buffer 126 = .ok (.iconst (-1), 1) := by decide +kernel
theorem dX8_buffer_127 : decode cX8_buffer 127 = .ok (.if_icmp .eq 14, 3) := by decide +kernel
theorem dX8_buffer_130 : decode cX8_buffer 130 = .ok (.iload 6, 2) := by decide +kernel
theorem dX8_buffer_132 : decode cX8_buffer 132 = .ok (.iload 4, 2) := by decide +kernel
theorem dX8_buffer_134 : decode cX8_buffer 134 = .ok (.if_icmp .ge 7, 3) := by decide +kernel
theorem dX8_buffer_137 : decode cX8_buffer 137 = .ok (.iconst 1, 1) := by decide +kernel
theorem dX8_buffer_138 : decode cX8_buffer 138 = .ok (.goto 4, 3) := by decide +kernel
theorem dX8_buffer_141 : decode cX8_buffer 141 = .ok (.iconst 0, 1) := by decide +kernel
theorem dX8_buffer_142 : decode cX8_buffer 142 = .ok (.istore 7, 2) := by decide +kernel
theorem dX8_buffer_144 : decode cX8_buffer 144 = .ok (.iload 7, 2) := by decide +kernel
theorem dX8_buffer_146 : decode cX8_buffer 146 = .ok (.ifCond .eq 8, 3) := by decide +kernel
theorem dX8_buffer_149 : decode cX8_buffer 149 = .ok (.iload 5, 2) := by decide +kernel
theorem dX8_buffer_151 : decode cX8_buffer 151 = .ok (.goto 4, 3) := by decide +kernel
theorem dX8_buffer_154 : decode cX8_buffer 154 = .ok (.iload_n 2, 1) := by decide +kernel
theorem dX8_buffer_155 : decode cX8_buffer 155 = .ok (.istore_n 2, 1) := by decide +kernel
theorem dX8_buffer_156 : decode cX8_buffer 156 = .ok (.iload 7, 2) := by decide +kernel
theorem dX8_buffer_158 : decode cX8_buffer 158 = .ok (.ifCond .eq 8, 3) := by decide +kernel
theorem dX8_buffer_161 : decode cX8_buffer 161 = .ok (.iload 6, 2) := by decide +kernel
theorem dX8_buffer_163 : decode cX8_buffer 163 = .ok (.goto 5, 3) := by decide +kernel
theorem dX8_buffer_166 : decode cX8_buffer 166 = .ok (.iload 4, 2) := by decide +kernel
theorem dX8_buffer_168 : decode cX8_buffer 168 = .ok (.istore 4, 2) := by decide +kernel
theorem dX8_buffer_170 : decode cX8_buffer 170 = .ok (.iinc 5 1, 3) := by decide +kernel
theorem dX8_buffer_173 : decode cX8_buffer 173 = .ok (.goto (-135), 3) := by decide +kernel
theorem dX8_buffer_176 : decode cX8_buffer 176 = .ok (.iload_n 2, 1) := by decide +kernel
theorem dX8_buffer_177 : decode cX8_buffer 177 = .ok (.ireturn, 1) := by decide +kernel
theorem dX8_isTrace_0 : decode cX8_isTrace 0 = .ok (.iload_n 0, 1) := by decide +kernel
theorem dX8_isTrace_1 : decode cX8_isTrace 1 = .ok (.i2l, 1) := by decide +kernel
theorem dX8_isTrace_2 : decode cX8_isTrace 2 = .ok (.lconst 0, 1) := by decide +kernel
theorem dX8_isTrace_3 : decode cX8_isTrace 3 = .ok (.ldc2_w 237, 3) := by decide +kernel
theorem dX8_isTrace_6 : decode cX8_isTrace 6 = .ok (.invokestatic 102, 3) := by decide +kernel
theorem dX8_isTrace_9 : decode cX8_isTrace 9 = .ok (.ireturn, 1) := by decide +kernel
theorem dX8_trace_0 : decode cX8_trace 0 = .ok (.iload_n 1, 1) := by decide +kernel
theorem dX8_trace_1 : decode cX8_trace 1 = .ok (.invokestatic 239, 3) := by decide +kernel
theorem dX8_trace_4 : decode cX8_trace 4 = .ok (.ifCond .ne 6, 3) := by decide +kernel
theorem dX8_trace_7 : decode cX8_trace 7 = .ok (.bipush (-2), 2) := by decide +kernel
theorem dX8_trace_9 : decode cX8_trace 9 = .ok (.ireturn, 1) := by decide +kernel
theorem dX8_trace_10 : decode cX8_trace 10 = .ok (.iload_n 2, 1) := by decide +kernel
theorem dX8_trace_11 : decode cX8_trace 11 = .ok (.i2l, 1) := by decide +kernel
theorem dX8_trace_12 : decode cX8_trace 12 = .ok (.lconst 0, 1) := by decide +kernel
theorem dX8_trace_13 : decode cX8_trace 13 = .ok (.lconst 1, 1) := by decide +kernel
theorem dX8_trace_14 : decode cX8_trace 14 = .ok (.invokestatic 102, 3) := by decide +kernel
theorem dX8_trace_17 : decode cX8_trace 17 = .ok (.ifCond .eq 9, 3) := by decide +kernel
theorem dX8_trace_20 : decode cX8_trace 20 = .ok (.iload_n 3, 1) := by decide +kernel
theorem dX8_trace_21 : decode cX8_trace 21 = .ok (.bipush 8, 2) := by decide +kernel
theorem dX8_trace_23 : decode cX8_trace 23 = .ok (.if_icmp .le 6, 3) := by decide +kernel
theorem dX8_trace_26 : decode cX8_trace 26 = .ok (.bipush (-3), 2) := by decide +kernel
theorem dX8_trace_28 : decode cX8_trace 28 = .ok (.ireturn, 1) := by decide +kernel
theorem dX8_trace_29 : decode cX8_trace 29 = .ok (.iload_n 3, 1) := by decide +kernel
theorem dX8_trace_30 : decode cX8_trace 30 = .ok (.ifCond .ge 6, 3) := by decide +kernel
theorem dX8_trace_33 : decode cX8_trace 33 = .ok (.bipush (-12), 2) := by decide +kernel
theorem dX8_trace_35 : decode cX8_trace 35 = .ok (.ireturn, 1) := by decide +kernel
theorem dX8_trace_36 : decode cX8_trace 36 = .ok (.aload_n 0, 1) := by decide +kernel
theorem dX8_trace_37 : decode cX8_trace 37 = .ok (.getfield 26, 3) := by decide +kernel
theorem dX8_trace_40 : decode cX8_trace 40 = .ok (.iload_n 1, 1) := by decide +kernel
theorem dX8_trace_41 : decode cX8_trace 41 = .ok (.iload_n 2, 1) := by decide +kernel
theorem dX8_trace_42 : decode cX8_trace 42 = .ok (.iastore, 1) := by decide +kernel
theorem dX8_trace_43 : decode cX8_trace 43 = .ok (.aload_n 0, 1) := by decide +kernel
theorem dX8_trace_44 : decode cX8_trace 44 = .ok (.getfield 29, 3) := by decide +kernel
theorem dX8_trace_47 : decode cX8_trace 47 = .ok (.iload_n 1, 1) := by decide +kernel
theorem dX8_trace_48 : decode cX8_trace 48 = .ok (.iload_n 3, 1) := by decide +kernel
theorem dX8_trace_49 : decode cX8_trace 49 = .ok (.iastore, 1) := by decide +kernel
theorem dX8_trace_50 : decode cX8_trace 50 = .ok (.iconst 0, 1) := by decide +kernel
theorem dX8_trace_51 : decode cX8_trace 51 = .ok (.istore 4, 2) := by decide +kernel
theorem dX8_trace_53 : decode cX8_trace 53 = .ok (.iload 4, 2) := by decide +kernel
theorem dX8_trace_55 : decode cX8_trace 55 = .ok (.bipush 8, 2) := by decide +kernel
theorem dX8_trace_57 : decode cX8_trace 57 = .ok (.if_icmp .ge 35, 3) := by decide +kernel
theorem dX8_trace_60 : decode cX8_trace 60 = .ok (.aload_n 0, 1) := by decide +kernel
theorem dX8_trace_61 : decode cX8_trace 61 = .ok (.getfield 32, 3) := by decide +kernel
theorem dX8_trace_64 : decode cX8_trace 64 = .ok (.bipush 8, 2) := by decide +kernel
theorem dX8_trace_66 : decode cX8_trace 66 = .ok (.iload_n 1, 1) := by decide +kernel
theorem dX8_trace_67 : decode cX8_trace 67 = .ok (.imul, 1) := by decide +kernel
theorem dX8_trace_68 : decode cX8_trace 68 = .ok (.iload 4, 2) := by decide +kernel
theorem dX8_trace_70 : decode cX8_trace 70 = .ok (.iadd, 1) := by decide +kernel
theorem dX8_trace_71 : decode cX8_trace 71 = .ok (.fconst 0, 1) := by decide +kernel
theorem dX8_trace_72 : decode cX8_trace 72 = .ok (.fastore, 1) := by decide +kernel
theorem dX8_trace_73 : decode cX8_trace 73 = .ok (.aload_n 0, 1) := by decide +kernel
theorem dX8_trace_74 : decode cX8_trace 74 = .ok (.getfield 36, 3) := by decide +kernel
theorem dX8_trace_77 : decode cX8_trace 77 = .ok (.bipush 8, 2) := by decide +kernel
theorem dX8_trace_79 : decode cX8_trace 79 = .ok (.iload_n 1, 1) := by decide +kernel
theorem dX8_trace_80 : decode cX8_trace 80 = .ok (.imul, 1) := by decide +kernel
theorem dX8_trace_81 : decode cX8_trace 81 = .ok (.iload 4, 2) := by decide +kernel
theorem dX8_trace_83 : decode cX8_trace 83 = .ok (.iadd, 1) := by decide +kernel
theorem dX8_trace_84 : decode cX8_trace 84 = .ok (.dconst 0, 1) := by decide +kernel
theorem dX8_trace_85 : decode cX8_trace 85 = .ok (.dastore, 1) := by decide +kernel
theorem dX8_trace_86 : decode cX8_trace 86 = .ok (.iinc 4 1, 3) := by decide +kernel
theorem dX8_trace_89 : decode cX8_trace 89 = .ok (.goto (-36), 3) := by decide +kernel
theorem dX8_trace_92 : decode cX8_trace 92 = .ok (.iload_n 3, 1) := by decide +kernel
theorem dX8_trace_93 : decode cX8_trace 93 = .ok (.ireturn, 1) := by decide +kernel
theorem dX8_cut_0 : decode cX8_cut 0 = .ok (.dload_n 0, 1) := by decide +kernel
theorem dX8_cut_1 : decode cX8_cut 1 = .ok (.dload_n 0, 1) := by decide +kernel
theorem dX8_cut_2 : decode cX8_cut 2 = .ok (.dcmp .l, 1) := by decide +kernel
theorem dX8_cut_3 : decode cX8_cut 3 = .ok (.ifCond .eq 8, 3) := by decide +kernel
theorem dX8_cut_6 : decode cX8_cut 6 = .ok (.ldc 242, 2) := by decide +kernel
theorem dX8_cut_8 : decode cX8_cut 8 = .ok (.goto 34, 3) := by decide +kernel
theorem dX8_cut_11 : decode cX8_cut 11 = .ok (.dload_n 0, 1) := by decide +kernel
theorem dX8_cut_12 : decode cX8_cut 12 = .ok (.ldc2_w 243, 3) := by decide +kernel
theorem dX8_cut_15 : decode cX8_cut 15 = .ok (.dcmp .l, 1) := by decide +kernel
theorem dX8_cut_16 : decode cX8_cut 16 = .ok (.ifCond .lt 8, 3) := by decide +kernel
theorem dX8_cut_19 : decode cX8_cut 19 = .ok (.ldc 245, 2) := by decide +kernel
theorem dX8_cut_21 : decode cX8_cut 21 = .ok (.goto 21, 3) := by decide +kernel
theorem dX8_cut_24 : decode cX8_cut 24 = .ok (.dload_n 0, 1) := by decide +kernel
theorem dX8_cut_25 : decode cX8_cut 25 = .ok (.ldc2_w 246, 3) := by decide +kernel
theorem dX8_cut_28 : decode cX8_cut 28 = .ok (.dcmp .g, 1) := by decide +kernel
theorem dX8_cut_29 : decode cX8_cut 29 = .ok (.ifCond .gt 8, 3) := by decide +kernel
theorem dX8_cut_32 : decode cX8_cut 32 = .ok (.ldc 248, 2) := by decide +kernel
theorem dX8_cut_34 : decode cX8_cut 34 = .ok (.goto 8, 3) := by decide +kernel
theorem dX8_cut_37 : decode cX8_cut 37 = .ok (.dload_n 0, 1) := by decide +kernel
theorem dX8_cut_38 : decode cX8_cut 38 = .ok (.d2i, 1) := by decide +kernel
theorem dX8_cut_39 : decode cX8_cut 39 = .ok (.ldc 242, 2) := by decide +kernel
theorem dX8_cut_41 : decode cX8_cut 41 = .ok (.iadd, 1) := by decide +kernel
theorem dX8_cut_42 : decode cX8_cut 42 = .ok (.ireturn, 1) := by decide +kernel
theorem dX8_thousand_0 : decode cX8_thousand 0 = .ok (.aload_n 0, 1) := by decide +kernel
theorem dX8_thousand_1 : decode cX8_thousand 1 = .ok (.getfield 26, 3) := by decide +kernel
theorem dX8_thousand_4 : decode cX8_thousand 4 = .ok (.iload_n 1, 1) := by decide +kernel
theorem dX8_thousand_5 : decode cX8_thousand 5 = .ok (.iaload, 1) := by decide +kernel
theorem dX8_thousand_6 : decode cX8_thousand 6 = .ok (.ifCond .ne 24, 3) := by decide +kernel
theorem dX8_thousand_9 : decode cX8_thousand 9 = .ok (.ldc 249, 2) := by decide +kernel
theorem dX8_thousand_11 : decode cX8_thousand 11 = .ok (.aload_n 0, 1) := by decide +kernel
theorem dX8_thousand_12 : decode cX8_thousand 12 = .ok (.getfield 32, 3) := by decide +kernel
theorem dX8_thousand_15 : decode cX8_thousand 15 = .ok (.bipush 8, 2) := by decide +kernel
theorem dX8_thousand_17 : decode cX8_thousand 17 = .ok (.iload_n 1, 1) := by decide +kernel
theorem dX8_thousand_18 : decode cX8_thousand 18 = .ok (.imul, 1) := by decide +kernel
theorem dX8_thousand_19 : decode cX8_thousand 19 = .ok (.iload_n 2, 1) := by decide +kernel
theorem dX8_thousand_20 : decode cX8_thousand 20 = .ok (.iadd, 1) := by decide +kernel
theorem dX8_thousand_21 : decode cX8_thousand 21 = .ok (.faload, 1) := by decide +kernel
theorem dX8_thousand_22 : decode cX8_thousand 22 = .ok (.fmul, 1) := by decide +kernel
theorem dX8_thousand_23 : decode cX8_thousand 23 = .ok (.f2d, 1) := by decide +kernel
theorem dX8_thousand_24 : decode cX8_thousand 24 = .ok (.invokestatic 250, 3) := by decide +kernel
theorem dX8_thousand_27 : decode cX8_thousand 27 = .ok (.goto 21, 3) := by decide +kernel
theorem dX8_thousand_30 : decode cX8_thousand 30 = .ok (.ldc2_w 254, 3) := by decide +kernel
theorem dX8_thousand_33 : decode cX8_thousand 33 = .ok (.aload_n 0, 1) := by decide +kernel
theorem dX8_thousand_34 : decode cX8_thousand 34 = .ok (.getfield 36, 3) := by decide +kernel
theorem dX8_thousand_37 : decode cX8_thousand 37 = .ok (.bipush 8, 2) := by decide +kernel
theorem dX8_thousand_39 : decode cX8_thousand 39 = .ok (.iload_n 1, 1) := by decide +kernel
theorem dX8_thousand_40 : decode cX8_thousand 40 = .ok (.imul, 1) := by decide +kernel
theorem dX8_thousand_41 : decode cX8_thousand 41 = .ok (.iload_n 2, 1) := by decide +kernel
theorem dX8_thousand_42 : decode cX8_thousand 42 = .ok (.iadd, 1) := by decide +kernel
theorem dX8_thousand_43 : decode cX8_thousand 43 = .ok (.daload, 1) := by decide +kernel
theorem dX8_thousand_44 : decode cX8_thousand 44 = .ok (.dmul, 1) := by decide +kernel
theorem dX8_thousand_45 : decode cX8_thousand 45 = .ok (.invokestatic 250, 3) := by decide +kernel
theorem dX8_thousand_48 : decode cX8_thousand 48 = .ok (.ireturn, 1) := by decide +kernel
theorem dX8_noPlace_0 : decode cX8_noPlace 0 = .ok (.aload_n 0, 1) := by decide +kernel
theorem dX8_noPlace_1 : decode cX8_noPlace 1 = .ok (.getfield 29, 3) := by decide +kernel
theorem dX8_noPlace_4 : decode cX8_noPlace 4 = .ok (.iload_n 1, 1) := by decide +kernel
theorem dX8_noPlace_5 : decode cX8_noPlace 5 = .ok (.iaload, 1) := by decide +kernel
theorem dX8_noPlace_6 : decode cX8_noPlace 6 = .ok (.ifCond .ge 8, 3) := by decide +kernel
theorem dX8_noPlace_9 : decode cX8_noPlace 9 = .ok (.bipush (-11), 2) := by decide +kernel
theorem dX8_noPlace_11 : decode cX8_noPlace 11 = .ok (.goto 61, 3) := by decide +kernel
theorem dX8_noPlace_14 : decode cX8_noPlace 14 = .ok (.aload_n 0, 1) := by decide +kernel
theorem dX8_noPlace_15 : decode cX8_noPlace 15 = .ok (.getfield 26, 3) := by decide +kernel
theorem dX8_noPlace_18 : decode cX8_noPlace 18 = .ok (.iload_n 1, 1) := by decide +kernel
theorem dX8_noPlace_19 : decode cX8_noPlace 19 = .ok (.iaload, 1) := by decide +kernel
theorem dX8_noPlace_20 : decode cX8_noPlace 20 = .ok (.iload_n 2, 1) := by decide +kernel
theorem dX8_noPlace_21 : decode cX8_noPlace 21 = .ok (.if_icmp .eq 8, 3) := by decide +kernel
theorem dX8_noPlace_24 : decode cX8_noPlace 24 = .ok (.bipush (-13), 2) := by decide +kernel
theorem dX8_noPlace_26 : decode cX8_noPlace 26 = .ok (.goto 46, 3) := by decide +kernel
theorem dX8_noPlace_29 : decode cX8_noPlace 29 = .ok (.iload_n 3, 1) := by decide +kernel
theorem dX8_noPlace_30 : decode cX8_noPlace 30 = .ok (.i2l, 1) := by decide +kernel
theorem dX8_noPlace_31 : decode cX8_noPlace 31 = .ok (.lconst 0, 1) := by decide +kernel
theorem dX8_noPlace_32 : decode cX8_noPlace 32 = .ok (.aload_n 0, 1) := by decide +kernel
theorem dX8_noPlace_33 : decode cX8_noPlace 33 = .ok (.getfield 29, 3) := by decide +kernel
theorem dX8_noPlace_36 : decode cX8_noPlace 36 = .ok (.iload_n 1, 1) := by decide +kernel
theorem dX8_noPlace_37 : decode cX8_noPlace 37 = .ok (.iaload, 1) := by decide +kernel
theorem dX8_noPlace_38 : decode cX8_noPlace 38 = .ok (.iconst 1, 1) := by decide +kernel
theorem dX8_noPlace_39 : decode cX8_noPlace 39 = .ok (.isub, 1) := by decide +kernel
theorem dX8_noPlace_40 : decode cX8_noPlace 40 = .ok (.i2l, 1) := by decide +kernel
theorem dX8_noPlace_41 : decode cX8_noPlace 41 = .ok (.invokestatic 102, 3) := by decide +kernel
theorem dX8_noPlace_44 : decode cX8_noPlace 44 = .ok (.ifCond .eq 26, 3) := by decide +kernel
theorem dX8_noPlace_47 : decode cX8_noPlace 47 = .ok (.iload 4, 2) := by decide +kernel
theorem dX8_noPlace_49 : decode cX8_noPlace 49 = .ok (.i2l, 1) := by decide +kernel
theorem dX8_noPlace_50 : decode cX8_noPlace 50 = .ok (.lconst 0, 1) := by decide +kernel
theorem dX8_noPlace_51 : decode cX8_noPlace 51 = .ok (.aload_n 0, 1) := by decide +kernel
theorem dX8_noPlace_52 : decode cX8_noPlace 52 = .ok (.getfield 29, 3) := by decide +kernel
theorem dX8_noPlace_55 : decode cX8_noPlace 55 = .ok (.iload_n 1, 1) := by decide +kernel
theorem dX8_noPlace_56 : decode cX8_noPlace 56 = .ok (.iaload, 1) := by decide +kernel
theorem dX8_noPlace_57 : decode cX8_noPlace 57 = .ok (.iconst 1, 1) := by decide +kernel
theorem dX8_noPlace_58 : decode cX8_noPlace 58 = .ok (.isub, 1) := by decide +kernel
theorem dX8_noPlace_59 : decode cX8_noPlace 59 = .ok (.i2l, 1) := by decide +kernel
theorem dX8_noPlace_60 : decode cX8_noPlace 60 = .ok (.invokestatic 102, 3) := by decide +kernel
theorem dX8_noPlace_63 : decode cX8_noPlace 63 = .ok (.ifCond .eq 7, 3) := by decide +kernel
theorem dX8_noPlace_66 : decode cX8_noPlace 66 = .ok (.iconst 0, 1) := by decide +kernel
theorem dX8_noPlace_67 : decode cX8_noPlace 67 = .ok (.goto 5, 3) := by decide +kernel
theorem dX8_noPlace_70 : decode cX8_noPlace 70 = .ok (.bipush (-14), 2) := by decide +kernel
theorem dX8_noPlace_72 : decode cX8_noPlace 72 = .ok (.ireturn, 1) := by decide +kernel
theorem dX8_set_0 : decode cX8_set 0 = .ok (.iload_n 1, 1) := by decide +kernel
theorem dX8_set_1 : decode cX8_set 1 = .ok (.invokestatic 239, 3) := by decide +kernel
theorem dX8_set_4 : decode cX8_set 4 = .ok (.ifCond .ne 6, 3) := by decide +kernel
theorem dX8_set_7 : decode cX8_set 7 = .ok (.bipush (-2), 2) := by decide +kernel
theorem dX8_set_9 : decode cX8_set 9 = .ok (.ireturn, 1) := by decide +kernel
theorem dX8_set_10 : decode cX8_set 10 = .ok (.iload_n 2, 1) := by decide +kernel
theorem dX8_set_11 : decode cX8_set 11 = .ok (.i2l, 1) := by decide +kernel
theorem dX8_set_12 : decode cX8_set 12 = .ok (.lconst 0, 1) := by decide +kernel
theorem dX8_set_13 : decode cX8_set 13 = .ok (.lconst 1, 1) := by decide +kernel
theorem dX8_set_14 : decode cX8_set 14 = .ok (.invokestatic 102, 3) := by decide +kernel
theorem dX8_set_17 : decode cX8_set 17 = .ok (.ifCond .eq 33, 3) := by decide +kernel
theorem dX8_set_20 : decode cX8_set 20 = .ok (.iload 4, 2) := by decide +kernel
theorem dX8_set_22 : decode cX8_set 22 = .ok (.i2l, 1) := by decide +kernel
theorem dX8_set_23 : decode cX8_set 23 = .ok (.ldc2_w 256, 3) := by decide +kernel
theorem dX8_set_26 : decode cX8_set 26 = .ok (.ldc2_w 258, 3) := by decide +kernel
theorem dX8_set_29 : decode cX8_set 29 = .ok (.invokestatic 102, 3) := by decide +kernel
theorem dX8_set_32 : decode cX8_set 32 = .ok (.ifCond .eq 18, 3) := by decide +kernel
theorem dX8_set_35 : decode cX8_set 35 = .ok (.iload 5, 2) := by decide +kernel
theorem dX8_set_37 : decode cX8_set 37 = .ok (.i2l, 1) := by decide +kernel
theorem dX8_set_38 : decode cX8_set 38 = .ok (.ldc2_w 256, 3) := by decide +kernel
theorem dX8_set_41 : decode cX8_set 41 = .ok (.ldc2_w 258, 3) := by decide +kernel
theorem dX8_set_44 : decode cX8_set 44 = .ok (.invokestatic 102, 3) := by decide +kernel
theorem dX8_set_47 : decode cX8_set 47 = .ok (.ifCond .ne 6, 3) := by decide +kernel
theorem dX8_set_50 : decode cX8_set 50 = .ok (.bipush (-3), 2) := by decide +kernel
theorem dX8_set_52 : decode cX8_set 52 = .ok (.ireturn, 1) := by decide +kernel
theorem dX8_set_53 : decode cX8_set 53 = .ok (.aload_n 0, 1) := by decide +kernel
theorem dX8_set_54 : decode cX8_set 54 = .ok (.iload_n 1, 1) := by decide +kernel
theorem dX8_set_55 : decode cX8_set 55 = .ok (.iload_n 2, 1) := by decide +kernel
theorem dX8_set_56 : decode cX8_set 56 = .ok (.iload_n 3, 1) := by decide +kernel
theorem dX8_set_57 : decode cX8_set 57 = .ok (.iload_n 3, 1) := by decide +kernel
theorem dX8_set_58 : decode cX8_set 58 = .ok (.invokevirtual 260, 3) := by decide +kernel
theorem dX8_set_61 : decode cX8_set 61 = .ok (.istore 6, 2) := by decide +kernel
theorem dX8_set_63 : decode cX8_set 63 = .ok (.iload 6, 2) := by decide +kernel
theorem dX8_set_65 : decode cX8_set 65 = .ok (.ifCond .eq 6, 3) := by decide +kernel
theorem dX8_set_68 : decode cX8_set 68 = .ok (.iload 6, 2) := by decide +kernel
theorem dX8_set_70 : decode cX8_set 70 = .ok (.ireturn, 1) := by decide +kernel
theorem dX8_set_71 : decode cX8_set 71 = .ok (.iload_n 2, 1) := by decide +kernel
theorem dX8_set_72 : decode cX8_set 72 = .ok (.ifCond .ne 24, 3) := by decide +kernel
theorem dX8_set_75 : decode cX8_set 75 = .ok (.aload_n 0, 1) := by decide +kernel
theorem dX8_set_76 : decode cX8_set 76 = .ok (.getfield 32, 3) := by decide +kernel
theorem dX8_set_79 : decode cX8_set 79 = .ok (.bipush 8, 2) := by decide +kernel
theorem dX8_set_81 : decode cX8_set 81 = .ok (.iload_n 1, 1) := by decide +kernel
theorem dX8_set_82 : decode cX8_set 82 = .ok (.imul, 1) := by decide +kernel
theorem dX8_set_83 : decode cX8_set 83 = .ok (.iload_n 3, 1) := by decide +kernel
theorem dX8_set_84 : decode cX8_set 84 = .ok (.iadd, 1) := by decide +kernel
theorem dX8_set_85 : decode cX8_set 85 = .ok (.iload 4, 2) := by decide +kernel
theorem dX8_set_87 : decode cX8_set 87 = .ok (.i2f, 1) := by decide +kernel
theorem dX8_set_88 : decode cX8_set 88 = .ok (.iload 5, 2) := by decide +kernel
theorem dX8_set_90 : decode cX8_set 90 = .ok (.i2f, 1) := by decide +kernel
theorem dX8_set_91 : decode cX8_set 91 = .ok (.fdiv, 1) := by decide +kernel
theorem dX8_set_92 : decode cX8_set 92 = .ok (.fastore, 1) := by decide +kernel
theorem dX8_set_93 : decode cX8_set 93 = .ok (.goto 21, 3) := by decide +kernel
theorem dX8_set_96 : decode cX8_set 96 = .ok (.aload_n 0, 1) := by decide +kernel
theorem dX8_set_97 : decode cX8_set 97 = .ok (.getfield 36, 3) := by decide +kernel
theorem dX8_set_100 : decode cX8_set 100 = .ok (.bipush 8, 2) := by decide +kernel
theorem dX8_set_102 : decode cX8_set 102 = .ok (.iload_n 1, 1) := by decide +kernel
theorem dX8_set_103 : decode cX8_set 103 = .ok (.imul, 1) := by decide +kernel
theorem dX8_set_104 : decode cX8_set 104 = .ok (.iload_n 3, 1) := by decide +kernel
theorem dX8_set_105 : decode cX8_set 105 = .ok (.iadd, 1) := by decide +kernel
theorem dX8_set_106 : decode cX8_set 106 = .ok (.iload 4, 2) := by decide +kernel
theorem dX8_set_108 : decode cX8_set 108 = .ok (.i2d, 1) := by decide +kernel
theorem dX8_set_109 : decode cX8_set 109 = .ok (.iload 5, 2) := by decide +kernel
theorem dX8_set_111 : decode cX8_set 111 = .ok (.i2d, 1) := by decide +kernel
theorem dX8_set_112 : decode cX8_set 112 = .ok (.ddiv, 1) := by decide +kernel
theorem dX8_set_113 : decode cX8_set 113 = .ok (.dastore, 1) := by decide +kernel
theorem dX8_set_114 : decode cX8_set 114 = .ok (.aload_n 0, 1) := by decide +kernel
theorem dX8_set_115 : decode cX8_set 115 = .ok (.iload_n 1, 1) := by decide +kernel
theorem dX8_set_116 : decode cX8_set 116 = .ok (.iload_n 3, 1) := by decide +kernel
theorem dX8_set_117 : decode cX8_set 117 = .ok (.invokevirtual 264, 3) := by decide +kernel
theorem dX8_set_120 : decode cX8_set 120 = .ok (.ireturn, 1) := by decide +kernel
theorem dX8_get_0 : decode cX8_get 0 = .ok (.iload_n 1, 1) := by decide +kernel
theorem dX8_get_1 : decode cX8_get 1 = .ok (.invokestatic 239, 3) := by decide +kernel
theorem dX8_get_4 : decode cX8_get 4 = .ok (.ifCond .ne 6, 3) := by decide +kernel
theorem dX8_get_7 : decode cX8_get 7 = .ok (.bipush (-2), 2) := by decide +kernel
theorem dX8_get_9 : decode cX8_get 9 = .ok (.ireturn, 1) := by decide +kernel
theorem dX8_get_10 : decode cX8_get 10 = .ok (.iload_n 2, 1) := by decide +kernel
theorem dX8_get_11 : decode cX8_get 11 = .ok (.i2l, 1) := by decide +kernel
theorem dX8_get_12 : decode cX8_get 12 = .ok (.lconst 0, 1) := by decide +kernel
theorem dX8_get_13 : decode cX8_get 13 = .ok (.lconst 1, 1) := by decide +kernel
theorem dX8_get_14 : decode cX8_get 14 = .ok (.invokestatic 102, 3) := by decide +kernel
theorem dX8_get_17 : decode cX8_get 17 = .ok (.ifCond .ne 6, 3) := by decide +kernel
theorem dX8_get_20 : decode cX8_get 20 = .ok (.bipush (-3), 2) := by decide +kernel
theorem dX8_get_22 : decode cX8_get 22 = .ok (.ireturn, 1) := by decide +kernel
theorem dX8_get_23 : decode cX8_get 23 = .ok (.aload_n 0, 1) := by decide +kernel
theorem dX8_get_24 : decode cX8_get 24 = .ok (.iload_n 1, 1) := by decide +kernel
theorem dX8_get_25 : decode cX8_get 25 = .ok (.iload_n 2, 1) := by decide +kernel
theorem dX8_get_26 : decode cX8_get 26 = .ok (.iload_n 3, 1) := by decide +kernel
theorem dX8_get_27 : decode cX8_get 27 = .ok (.iload_n 3, 1) := by decide +kernel
theorem dX8_get_28 : decode cX8_get 28 = .ok (.invokevirtual 260, 3) := by decide +kernel
theorem dX8_get_31 : decode cX8_get 31 = .ok (.istore 4, 2) := by decide +kernel
theorem dX8_get_33 : decode cX8_get 33 = .ok (.iload 4, 2) := by decide +kernel
theorem dX8_get_35 : decode cX8_get 35 = .ok (.ifCond .eq 8, 3) := by decide +kernel
theorem dX8_get_38 : decode cX8_get 38 = .ok (.iload 4, 2) := by decide +kernel
theorem dX8_get_40 : decode cX8_get 40 = .ok (.goto 9, 3) := by decide +kernel
theorem dX8_get_43 : decode cX8_get 43 = .ok (.aload_n 0, 1) := by decide +kernel
theorem dX8_get_44 : decode cX8_get 44 = .ok (.iload_n 1, 1) := by decide +kernel
theorem dX8_get_45 : decode cX8_get 45 = .ok (.iload_n 3, 1) := by decide +kernel
theorem dX8_get_46 : decode cX8_get 46 = .ok (.invokevirtual 264, 3) := by decide +kernel
theorem dX8_get_49 : decode cX8_get 49 = .ok (.ireturn, 1) := by decide +kernel
theorem dX8_rest_0 : decode cX8_rest 0 = .ok (.iload_n 1, 1) := by decide +kernel
theorem dX8_rest_1 : decode cX8_rest 1 = .ok (.invokestatic 239, 3) := by decide +kernel
theorem dX8_rest_4 : decode cX8_rest 4 = .ok (.ifCond .ne 6, 3) := by decide +kernel
theorem dX8_rest_7 : decode cX8_rest 7 = .ok (.bipush (-2), 2) := by decide +kernel
theorem dX8_rest_9 : decode cX8_rest 9 = .ok (.ireturn, 1) := by decide +kernel
theorem dX8_rest_10 : decode cX8_rest 10 = .ok (.iload_n 2, 1) := by decide +kernel
theorem dX8_rest_11 : decode cX8_rest 11 = .ok (.i2l, 1) := by decide +kernel
theorem dX8_rest_12 : decode cX8_rest 12 = .ok (.lconst 0, 1) := by decide +kernel
theorem dX8_rest_13 : decode cX8_rest 13 = .ok (.lconst 1, 1) := by decide +kernel
theorem dX8_rest_14 : decode cX8_rest 14 = .ok (.invokestatic 102, 3) := by decide +kernel
theorem dX8_rest_17 : decode cX8_rest 17 = .ok (.ifCond .ne 6, 3) := by decide +kernel
theorem dX8_rest_20 : decode cX8_rest 20 = .ok (.bipush (-3), 2) := by decide +kernel
theorem dX8_rest_22 : decode cX8_rest 22 = .ok (.ireturn, 1) := by decide +kernel
theorem dX8_rest_23 : decode cX8_rest 23 = .ok (.aload_n 0, 1) := by decide +kernel
theorem dX8_rest_24 : decode cX8_rest 24 = .ok (.iload_n 1, 1) := by decide +kernel
theorem dX8_rest_25 : decode cX8_rest 25 = .ok (.iload_n 2, 1) := by decide +kernel
theorem dX8_rest_26 : decode cX8_rest 26 = .ok (.iload_n 3, 1) := by decide +kernel
theorem dX8_rest_27 : decode cX8_rest 27 = .ok (.iload 4, 2) := by decide +kernel
theorem dX8_rest_29 : decode cX8_rest 29 = .ok (.invokevirtual 260, 3) := by decide +kernel
theorem dX8_rest_32 : decode cX8_rest 32 = .ok (.istore 5, 2) := by decide +kernel
theorem dX8_rest_34 : decode cX8_rest 34 = .ok (.iload 5, 2) := by decide +kernel
theorem dX8_rest_36 : decode cX8_rest 36 = .ok (.ifCond .eq 6, 3) := by decide +kernel
theorem dX8_rest_39 : decode cX8_rest 39 = .ok (.iload 5, 2) := by decide +kernel
theorem dX8_rest_41 : decode cX8_rest 41 = .ok (.ireturn, 1) := by decide +kernel
theorem dX8_rest_42 : decode cX8_rest 42 = .ok (.iload_n 2, 1) := by decide +kernel
theorem dX8_rest_43 : decode cX8_rest 43 = .ok (.ifCond .ne 41, 3) := by decide +kernel
theorem dX8_rest_46 : decode cX8_rest 46 = .ok (.aload_n 0, 1) := by decide +kernel
theorem dX8_rest_47 : decode cX8_rest 47 = .ok (.getfield 32, 3) := by decide +kernel
theorem dX8_rest_50 : decode cX8_rest 50 = .ok (.bipush 8, 2) := by decide +kernel
theorem dX8_rest_52 : decode cX8_rest 52 = .ok (.iload_n 1, 1) := by decide +kernel
theorem dX8_rest_53 : decode cX8_rest 53 = .ok (.imul, 1) := by decide +kernel
theorem dX8_rest_54 : decode cX8_rest 54 = .ok (.iload_n 3, 1) := by decide +kernel
theorem dX8_rest_55 : decode cX8_rest 55 = .ok (.iadd, 1) := by decide +kernel
theorem dX8_rest_56 : decode cX8_rest 56 = .ok (.aload_n 0, 1) := by decide +kernel
theorem dX8_rest_57 : decode cX8_rest 57 = .ok (.getfield 32, 3) := by decide +kernel
theorem dX8_rest_60 : decode cX8_rest 60 = .ok (.bipush 8, 2) := by decide +kernel
theorem dX8_rest_62 : decode cX8_rest 62 = .ok (.iload_n 1, 1) := by decide +kernel
theorem dX8_rest_63 : decode cX8_rest 63 = .ok (.imul, 1) := by decide +kernel
theorem dX8_rest_64 : decode cX8_rest 64 = .ok (.iload_n 3, 1) := by decide +kernel
theorem dX8_rest_65 : decode cX8_rest 65 = .ok (.iadd, 1) := by decide +kernel
theorem dX8_rest_66 : decode cX8_rest 66 = .ok (.faload, 1) := by decide +kernel
theorem dX8_rest_67 : decode cX8_rest 67 = .ok (.aload_n 0, 1) := by decide +kernel
theorem dX8_rest_68 : decode cX8_rest 68 = .ok (.getfield 32, 3) := by decide +kernel
theorem dX8_rest_71 : decode cX8_rest 71 = .ok (.bipush 8, 2) := by decide +kernel
theorem dX8_rest_73 : decode cX8_rest 73 = .ok (.iload_n 1, 1) := by decide +kernel
theorem dX8_rest_74 : decode cX8_rest 74 = .ok (.imul, 1) := by decide +kernel
theorem dX8_rest_75 : decode cX8_rest 75 = .ok (.iload 4, 2) := by decide +kernel
theorem dX8_rest_77 : decode cX8_rest 77 = .ok (.iadd, 1) := by decide +kernel
theorem dX8_rest_78 : decode cX8_rest 78 = .ok (.faload, 1) := by decide +kernel
theorem dX8_rest_79 : decode cX8_rest 79 = .ok (.frem, 1) := by decide +kernel
theorem dX8_rest_80 : decode cX8_rest 80 = .ok (.fastore, 1) := by decide +kernel
theorem dX8_rest_81 : decode cX8_rest 81 = .ok (.goto 38, 3) := by decide +kernel
theorem dX8_rest_84 : decode cX8_rest 84 = .ok (.aload_n 0, 1) := by decide +kernel
theorem dX8_rest_85 : decode cX8_rest 85 = .ok (.getfield 36, 3) := by decide +kernel
theorem dX8_rest_88 : decode cX8_rest 88 = .ok (.bipush 8, 2) := by decide +kernel
theorem dX8_rest_90 : decode cX8_rest 90 = .ok (.iload_n 1, 1) := by decide +kernel
theorem dX8_rest_91 : decode cX8_rest 91 = .ok (.imul, 1) := by decide +kernel
theorem dX8_rest_92 : decode cX8_rest 92 = .ok (.iload_n 3, 1) := by decide +kernel
theorem dX8_rest_93 : decode cX8_rest 93 = .ok (.iadd, 1) := by decide +kernel
theorem dX8_rest_94 : decode cX8_rest 94 = .ok (.aload_n 0, 1) := by decide +kernel
theorem dX8_rest_95 : decode cX8_rest 95 = .ok (.getfield 36, 3) := by decide +kernel
theorem dX8_rest_98 : decode cX8_rest 98 = .ok (.bipush 8, 2) := by decide +kernel
theorem dX8_rest_100 : decode cX8_rest 100 = .ok (.iload_n 1, 1) := by decide +kernel
theorem dX8_rest_101 : decode cX8_rest 101 = .ok (.imul, 1) := by decide +kernel
theorem dX8_rest_102 : decode cX8_rest 102 = .ok (.iload_n 3, 1) := by decide +kernel
theorem dX8_rest_103 : decode cX8_rest 103 = .ok (.iadd, 1) := by decide +kernel
theorem dX8_rest_104 : decode cX8_rest 104 = .ok (.daload, 1) := by decide +kernel
theorem dX8_rest_105 : decode cX8_rest 105 = .ok (.aload_n 0, 1) := by decide +kernel
theorem dX8_rest_106 : decode cX8_rest 106 = .ok (.getfield 36, 3) := by decide +kernel
theorem dX8_rest_109 : decode cX8_rest 109 = .ok (.bipush 8, 2) := by decide +kernel
theorem dX8_rest_111 : decode cX8_rest 111 = .ok (.iload_n 1, 1) := by decide +kernel
theorem dX8_rest_112 : decode cX8_rest 112 = .ok (.imul, 1) := by decide +kernel
theorem dX8_rest_113 : decode cX8_rest 113 = .ok (.iload 4, 2) := by decide +kernel
theorem dX8_rest_115 : decode cX8_rest 115 = .ok (.iadd, 1) := by decide +kernel
theorem dX8_rest_116 : decode cX8_rest 116 = .ok (.daload, 1) := by decide +kernel
theorem dX8_rest_117 : decode cX8_rest 117 = .ok (.drem, 1) := by decide +kernel
theorem dX8_rest_118 : decode cX8_rest 118 = .ok (.dastore, 1) := by decide +kernel
theorem dX8_rest_119 : decode cX8_rest 119 = .ok (.aload_n 0, 1) := by decide +kernel
theorem dX8_rest_120 : decode cX8_rest 120 = .ok (.iload_n 1, 1) := by decide +kernel
theorem dX8_rest_121 : decode cX8_rest 121 = .ok (.iload_n 3, 1) := by decide +kernel
theorem dX8_rest_122 : decode cX8_rest 122 = .ok (.invokevirtual 264, 3) := by decide +kernel
theorem dX8_rest_125 : decode cX8_rest 125 = .ok (.ireturn, 1) := by decide +kernel
theorem dX8_valueOf_0 : decode cX8_valueOf 0 = .ok (.aload_n 0, 1) := by decide +kernel
theorem dX8_valueOf_1 : decode cX8_valueOf 1 = .ok (.getfield 26, 3) := by decide +kernel
theorem dX8_valueOf_4 : decode cX8_valueOf 4 = .ok (.iload_n 1, 1) := by decide +kernel
theorem dX8_valueOf_5 : decode cX8_valueOf 5 = .ok (.iaload, 1) := by decide +kernel
theorem dX8_valueOf_6 : decode cX8_valueOf 6 = .ok (.ifCond .ne 18, 3) := by decide +kernel
theorem dX8_valueOf_9 : decode cX8_valueOf 9 = .ok (.aload_n 0, 1) := by decide +kernel
theorem dX8_valueOf_10 : decode cX8_valueOf 10 = .ok (.getfield 32, 3) := by decide +kernel
theorem dX8_valueOf_13 : decode cX8_valueOf 13 = .ok (.bipush 8, 2) := by decide +kernel
theorem dX8_valueOf_15 : decode cX8_valueOf 15 = .ok (.iload_n 1, 1) := by decide +kernel
theorem dX8_valueOf_16 : decode cX8_valueOf 16 = .ok (.imul, 1) := by decide +kernel
theorem dX8_valueOf_17 : decode cX8_valueOf 17 = .ok (.iload_n 2, 1) := by decide +kernel
theorem dX8_valueOf_18 : decode cX8_valueOf 18 = .ok (.iadd, 1) := by decide +kernel
theorem dX8_valueOf_19 : decode cX8_valueOf 19 = .ok (.faload, 1) := by decide +kernel
theorem dX8_valueOf_20 : decode cX8_valueOf 20 = .ok (.f2d, 1) := by decide +kernel
theorem dX8_valueOf_21 : decode cX8_valueOf 21 = .ok (.goto 14, 3) := by decide +kernel
theorem dX8_valueOf_24 : decode cX8_valueOf 24 = .ok (.aload_n 0, 1) := by decide +kernel
theorem dX8_valueOf_25 : decode cX8_valueOf 25 = .ok (.getfield 36, 3) := by decide +kernel
theorem dX8_valueOf_28 : decode cX8_valueOf 28 = .ok (.bipush 8, 2) := by decide +kernel
theorem dX8_valueOf_30 : decode cX8_valueOf 30 = .ok (.iload_n 1, 1) := by decide +kernel
theorem dX8_valueOf_31 : decode cX8_valueOf 31 = .ok (.imul, 1) := by decide +kernel
theorem dX8_valueOf_32 : decode cX8_valueOf 32 = .ok (.iload_n 2, 1) := by decide +kernel
theorem dX8_valueOf_33 : decode cX8_valueOf 33 = .ok (.iadd, 1) := by decide +kernel
theorem dX8_valueOf_34 : decode cX8_valueOf 34 = .ok (.daload, 1) := by decide +kernel
theorem dX8_valueOf_35 : decode cX8_valueOf 35 = .ok (.dreturn, 1) := by decide +kernel
theorem dX8_compare_0 : decode cX8_compare 0 = .ok (.iload_n 1, 1) := by decide +kernel
theorem dX8_compare_1 : decode cX8_compare 1 = .ok (.invokestatic 239, 3) := by decide +kernel
theorem dX8_compare_4 : decode cX8_compare 4 = .ok (.ifCond .ne 6, 3) := by decide +kernel
theorem dX8_compare_7 : decode cX8_compare 7 = .ok (.bipush (-2), 2) := by decide +kernel
theorem dX8_compare_9 : decode cX8_compare 9 = .ok (.ireturn, 1) := by decide +kernel
theorem dX8_compare_10 : decode cX8_compare 10 = .ok (.iload_n 2, 1) := by decide +kernel
theorem dX8_compare_11 : decode cX8_compare 11 = .ok (.i2l, 1) := by decide +kernel
theorem dX8_compare_12 : decode cX8_compare 12 = .ok (.lconst 0, 1) := by decide +kernel
theorem dX8_compare_13 : decode cX8_compare 13 = .ok (.lconst 1, 1) := by decide +kernel
theorem dX8_compare_14 : decode cX8_compare 14 = .ok (.invokestatic 102, 3) := by decide +kernel
theorem dX8_compare_17 : decode cX8_compare 17 = .ok (.ifCond .ne 6, 3) := by decide +kernel
theorem dX8_compare_20 : decode cX8_compare 20 = .ok (.bipush (-3), 2) := by decide +kernel
theorem dX8_compare_22 : decode cX8_compare 22 = .ok (.ireturn, 1) := by decide +kernel
theorem dX8_compare_23 : decode cX8_compare 23 = .ok (.aload_n 0, 1) := by decide +kernel
theorem dX8_compare_24 : decode cX8_compare 24 = .ok (.iload_n 1, 1) := by decide +kernel
theorem dX8_compare_25 : decode cX8_compare 25 = .ok (.iload_n 2, 1) := by decide +kernel
theorem dX8_compare_26 : decode cX8_compare 26 = .ok (.iload_n 3, 1) := by decide +kernel
theorem dX8_compare_27 : decode cX8_compare 27 = .ok (.iload 4, 2) := by decide +kernel
theorem dX8_compare_29 : decode cX8_compare 29 = .ok (.invokevirtual 260, 3) := by decide +kernel
theorem dX8_compare_32 : decode cX8_compare 32 = .ok (.istore 5, 2) := by decide +kernel
theorem dX8_compare_34 : decode cX8_compare 34 = .ok (.iload 5, 2) := by decide +kernel
theorem dX8_compare_36 : decode cX8_compare 36 = .ok (.ifCond .eq 6, 3) := by decide +kernel
theorem dX8_compare_39 : decode cX8_compare 39 = .ok (.iload 5, 2) := by decide +kernel
theorem dX8_compare_41 : decode cX8_compare 41 = .ok (.ireturn, 1) := by decide +kernel
theorem dX8_compare_42 : decode cX8_compare 42 = .ok (.aload_n 0, 1) := by decide +kernel
theorem dX8_compare_43 : decode cX8_compare 43 = .ok (.iload_n 1, 1) := by decide +kernel
theorem dX8_compare_44 : decode cX8_compare 44 = .ok (.iload_n 3, 1) := by decide +kernel
theorem dX8_compare_45 : decode cX8_compare 45 = .ok (.invokevirtual 267, 3) := by decide +kernel
theorem dX8_compare_48 : decode cX8_compare 48 = .ok (.dstore 6, 2) := by decide +kernel
theorem dX8_compare_50 : decode cX8_compare 50 = .ok (.aload_n 0, 1) := by decide +kernel
theorem dX8_compare_51 : decode cX8_compare 51 = .ok (.iload_n 1, 1) := by decide +kernel
theorem dX8_compare_52 : decode cX8_compare 52 = .ok (.iload 4, 2) := by decide +kernel
theorem dX8_compare_54 : decode cX8_compare 54 = .ok (.invokevirtual 267, 3) := by decide +kernel
theorem dX8_compare_57 : decode cX8_compare 57 = .ok (.dstore 8, 2) := by decide +kernel
theorem dX8_compare_59 : decode cX8_compare 59 = .ok (.dload 6, 2) := by decide +kernel
theorem dX8_compare_61 : decode cX8_compare 61 = .ok (.dload 8, 2) := by decide +kernel
theorem dX8_compare_63 : decode cX8_compare 63 = .ok (.dcmp .g, 1) := by decide +kernel
theorem dX8_compare_64 : decode cX8_compare 64 = .ok (.ifCond .ge 7, 3) := by decide +kernel
theorem dX8_compare_67 : decode cX8_compare 67 = .ok (.iconst 2, 1) := by decide +kernel
theorem dX8_compare_68 : decode cX8_compare 68 = .ok (.goto 16, 3) := by decide +kernel
theorem dX8_compare_71 : decode cX8_compare 71 = .ok (.dload 6, 2) := by decide +kernel
theorem dX8_compare_73 : decode cX8_compare 73 = .ok (.dload 8, 2) := by decide +kernel
theorem dX8_compare_75 : decode cX8_compare 75 = .ok (.dcmp .l, 1) := by decide +kernel
theorem dX8_compare_76 : decode cX8_compare 76 = .ok (.ifCond .ne 7, 3) := by decide +kernel
theorem dX8_compare_79 : decode cX8_compare 79 = .ok (.iconst 1, 1) := by decide +kernel
theorem dX8_compare_80 : decode cX8_compare 80 = .ok (.goto 4, 3) := by decide +kernel
theorem dX8_compare_83 : decode cX8_compare 83 = .ok (.iconst 0, 1) := by decide +kernel
theorem dX8_compare_84 : decode cX8_compare 84 = .ok (.ireturn, 1) := by decide +kernel
theorem dX8_sum_0 : decode cX8_sum 0 = .ok (.iload_n 1, 1) := by decide +kernel
theorem dX8_sum_1 : decode cX8_sum 1 = .ok (.invokestatic 239, 3) := by decide +kernel
theorem dX8_sum_4 : decode cX8_sum 4 = .ok (.ifCond .ne 6, 3) := by decide +kernel
theorem dX8_sum_7 : decode cX8_sum 7 = .ok (.bipush (-2), 2) := by decide +kernel
theorem dX8_sum_9 : decode cX8_sum 9 = .ok (.ireturn, 1) := by decide +kernel
theorem dX8_sum_10 : decode cX8_sum 10 = .ok (.iload_n 2, 1) := by decide +kernel
theorem dX8_sum_11 : decode cX8_sum 11 = .ok (.i2l, 1) := by decide +kernel
theorem dX8_sum_12 : decode cX8_sum 12 = .ok (.lconst 0, 1) := by decide +kernel
theorem dX8_sum_13 : decode cX8_sum 13 = .ok (.lconst 1, 1) := by decide +kernel
theorem dX8_sum_14 : decode cX8_sum 14 = .ok (.invokestatic 102, 3) := by decide +kernel
theorem dX8_sum_17 : decode cX8_sum 17 = .ok (.ifCond .ne 6, 3) := by decide +kernel
theorem dX8_sum_20 : decode cX8_sum 20 = .ok (.bipush (-3), 2) := by decide +kernel
theorem dX8_sum_22 : decode cX8_sum 22 = .ok (.ireturn, 1) := by decide +kernel
theorem dX8_sum_23 : decode cX8_sum 23 = .ok (.aload_n 0, 1) := by decide +kernel
theorem dX8_sum_24 : decode cX8_sum 24 = .ok (.getfield 29, 3) := by decide +kernel
theorem dX8_sum_27 : decode cX8_sum 27 = .ok (.iload_n 1, 1) := by decide +kernel
theorem dX8_sum_28 : decode cX8_sum 28 = .ok (.iaload, 1) := by decide +kernel
theorem dX8_sum_29 : decode cX8_sum 29 = .ok (.ifCond .ge 6, 3) := by decide +kernel
theorem dX8_sum_32 : decode cX8_sum 32 = .ok (.bipush (-11), 2) := by decide +kernel
theorem dX8_sum_34 : decode cX8_sum 34 = .ok (.ireturn, 1) := by decide +kernel
theorem dX8_sum_35 : decode cX8_sum 35 = .ok (.dconst 0, 1) := by decide +kernel
theorem dX8_sum_36 : decode cX8_sum 36 = .ok (.dstore_n 3, 1) := by decide +kernel
theorem dX8_sum_37 : decode cX8_sum 37 = .ok (.iconst 0, 1) := by decide +kernel
theorem dX8_sum_38 : decode cX8_sum 38 = .ok (.istore 5, 2) := by decide +kernel
theorem dX8_sum_40 : decode cX8_sum 40 = .ok (.iconst 0, 1) := by decide +kernel
theorem dX8_sum_41 : decode cX8_sum 41 = .ok (.istore 6, 2) := by decide +kernel
theorem dX8_sum_43 : decode cX8_sum 43 = .ok (.iload 6, 2) := by decide +kernel
theorem dX8_sum_45 : decode cX8_sum 45 = .ok (.aload_n 0, 1) := by decide +kernel
theorem dX8_sum_46 : decode cX8_sum 46 = .ok (.getfield 29, 3) := by decide +kernel
theorem dX8_sum_49 : decode cX8_sum 49 = .ok (.iload_n 1, 1) := by decide +kernel
theorem dX8_sum_50 : decode cX8_sum 50 = .ok (.iaload, 1) := by decide +kernel
theorem dX8_sum_51 : decode cX8_sum 51 = .ok (.if_icmp .ge 41, 3) := by decide +kernel
theorem dX8_sum_54 : decode cX8_sum 54 = .ok (.aload_n 0, 1) := by decide +kernel
theorem dX8_sum_55 : decode cX8_sum 55 = .ok (.iload_n 1, 1) := by decide +kernel
theorem dX8_sum_56 : decode cX8_sum 56 = .ok (.iload 6, 2) := by decide +kernel
theorem dX8_sum_58 : decode cX8_sum 58 = .ok (.invokevirtual 267, 3) := by decide +kernel
theorem dX8_sum_61 : decode cX8_sum 61 = .ok (.dstore 7, 2) := by decide +kernel
theorem dX8_sum_63 : decode cX8_sum 63 = .ok (.dload_n 3, 1) := by decide +kernel
theorem dX8_sum_64 : decode cX8_sum 64 = .ok (.dload 7, 2) := by decide +kernel
theorem dX8_sum_66 : decode cX8_sum 66 = .ok (.dadd, 1) := by decide +kernel
theorem dX8_sum_67 : decode cX8_sum 67 = .ok (.dstore_n 3, 1) := by decide +kernel
theorem dX8_sum_68 : decode cX8_sum 68 = .ok (.iload 5, 2) := by decide +kernel
theorem dX8_sum_70 : decode cX8_sum 70 = .ok (.dload 7, 2) := by decide +kernel
theorem dX8_sum_72 : decode cX8_sum 72 = .ok (.dload 7, 2) := by decide +kernel
theorem dX8_sum_74 : decode cX8_sum 74 = .ok (.dcmp .l, 1) := by decide +kernel
theorem dX8_sum_75 : decode cX8_sum 75 = .ok (.ifCond .eq 7, 3) := by decide +kernel
theorem dX8_sum_78 : decode cX8_sum 78 = .ok (.iconst 1, 1) := by decide +kernel
theorem dX8_sum_79 : decode cX8_sum 79 = .ok (.goto 4, 3) := by decide +kernel
theorem dX8_sum_82 : decode cX8_sum 82 = .ok (.iconst 0, 1) := by decide +kernel
theorem dX8_sum_83 : decode cX8_sum 83 = .ok (.iadd, 1) := by decide +kernel
theorem dX8_sum_84 : decode cX8_sum 84 = .ok (.istore 5, 2) := by decide +kernel
theorem dX8_sum_86 : decode cX8_sum 86 = .ok (.iinc 6 1, 3) := by decide +kernel
theorem dX8_sum_89 : decode cX8_sum 89 = .ok (.goto (-46), 3) := by decide +kernel
theorem dX8_sum_92 : decode cX8_sum 92 = .ok (.iload_n 2, 1) := by decide +kernel
theorem dX8_sum_93 : decode cX8_sum 93 = .ok (.ifCond .ne 14, 3) := by decide +kernel
theorem dX8_sum_96 : decode cX8_sum 96 = .ok (.ldc2_w 254, 3) := by decide +kernel
theorem dX8_sum_99 : decode cX8_sum 99 = .ok (.dload_n 3, 1) := by decide +kernel
theorem dX8_sum_100 : decode cX8_sum 100 = .ok (.dmul, 1) := by decide +kernel
theorem dX8_sum_101 : decode cX8_sum 101 = .ok (.invokestatic 250, 3) := by decide +kernel
theorem dX8_sum_104 : decode cX8_sum 104 = .ok (.goto 5, 3) := by decide +kernel
theorem dX8_sum_107 : decode cX8_sum 107 = .ok (.iload 5, 2) := by decide +kernel
theorem dX8_sum_109 : decode cX8_sum 109 = .ok (.ireturn, 1) := by decide +kernel
theorem dX8_drop_0 : decode cX8_drop 0 = .ok (.iload_n 1, 1) := by decide +kernel
theorem dX8_drop_1 : decode cX8_drop 1 = .ok (.invokestatic 239, 3) := by decide +kernel
theorem dX8_drop_4 : decode cX8_drop 4 = .ok (.ifCond .ne 6, 3) := by decide +kernel
theorem dX8_drop_7 : decode cX8_drop 7 = .ok (.bipush (-2), 2) := by decide +kernel
theorem dX8_drop_9 : decode cX8_drop 9 = .ok (.ireturn, 1) := by decide +kernel
theorem dX8_drop_10 : decode cX8_drop 10 = .ok (.aload_n 0, 1) := by decide +kernel
theorem dX8_drop_11 : decode cX8_drop 11 = .ok (.getfield 29, 3) := by decide +kernel
theorem dX8_drop_14 : decode cX8_drop 14 = .ok (.iload_n 1, 1) := by decide +kernel
theorem dX8_drop_15 : decode cX8_drop 15 = .ok (.iaload, 1) := by decide +kernel
theorem dX8_drop_16 : decode cX8_drop 16 = .ok (.istore_n 2, 1) := by decide +kernel
theorem dX8_drop_17 : decode cX8_drop 17 = .ok (.aload_n 0, 1) := by decide +kernel
theorem dX8_drop_18 : decode cX8_drop 18 = .ok (.getfield 29, 3) := by decide +kernel
theorem dX8_drop_21 : decode cX8_drop 21 = .ok (.iload_n 1, 1) := by decide +kernel
theorem dX8_drop_22 : decode cX8_drop 22 = .ok (.iconst (-1), 1) := by decide +kernel
theorem dX8_drop_23 : decode cX8_drop 23 = .ok (.iastore, 1) := by decide +kernel
theorem dX8_drop_24 : decode cX8_drop 24 = .ok (.iload_n 2, 1) := by decide +kernel
theorem dX8_drop_25 : decode cX8_drop 25 = .ok (.ifCond .ge 8, 3) := by decide +kernel
theorem dX8_drop_28 : decode cX8_drop 28 = .ok (.bipush (-11), 2) := by decide +kernel
theorem dX8_drop_30 : decode cX8_drop 30 = .ok (.goto 4, 3) := by decide +kernel
theorem dX8_drop_33 : decode cX8_drop 33 = .ok (.iload_n 2, 1) := by decide +kernel
theorem dX8_drop_34 : decode cX8_drop 34 = .ok (.ireturn, 1) := by decide +kernel
theorem dX8_allPlaces_0 : decode cX8_allPlaces 0 = .ok (.iconst 0, 1) := by decide +kernel
theorem dX8_allPlaces_1 : decode cX8_allPlaces 1 = .ok (.istore_n 1, 1) := by decide +kernel
theorem dX8_allPlaces_2 : decode cX8_allPlaces 2 = .ok (.iconst 0, 1) := by decide +kernel
theorem dX8_allPlaces_3 : decode cX8_allPlaces 3 = .ok (.istore_n 2, 1) := by decide +kernel
theorem dX8_allPlaces_4 : decode cX8_allPlaces 4 = .ok (.iload_n 2, 1) := by decide +kernel
theorem dX8_allPlaces_5 : decode cX8_allPlaces 5 = .ok (.iconst 3, 1) := by decide +kernel
theorem dX8_allPlaces_6 : decode cX8_allPlaces 6 = .ok (.if_icmp .ge 31, 3) := by decide +kernel
theorem dX8_allPlaces_9 : decode cX8_allPlaces 9 = .ok (.iload_n 1, 1) := by decide +kernel
theorem dX8_allPlaces_10 : decode cX8_allPlaces 10 = .ok (.aload_n 0, 1) := by decide +kernel
theorem dX8_allPlaces_11 : decode cX8_allPlaces 11 = .ok (.getfield 29, 3) := by decide +kernel
theorem dX8_allPlaces_14 : decode cX8_allPlaces 14 = .ok (.iload_n 2, 1) := by decide +kernel
theorem dX8_allPlaces_15 : decode cX8_allPlaces 15 = .ok (.iaload, 1) := by decide +kernel
theorem dX8_allPlaces_16 : decode cX8_allPlaces 16 = .ok (.ifCond .ge 7, 3) := by decide +kernel
theorem dX8_allPlaces_19 : decode cX8_allPlaces 19 = .ok (.iconst 0, 1) := by decide +kernel
theorem dX8_allPlaces_20 : decode cX8_allPlaces 20 = .ok (.goto 9, 3) := by decide +kernel
theorem dX8_allPlaces_23 : decode cX8_allPlaces 23 = .ok (.aload_n 0, 1) := by decide +kernel
theorem dX8_allPlaces_24 : decode cX8_allPlaces 24 = .ok (.getfield 29, 3) := by decide +kernel
theorem dX8_allPlaces_27 : decode cX8_allPlaces 27 = .ok (.iload_n 2, 1) := by decide +kernel
theorem dX8_allPlaces_28 : decode cX8_allPlaces 28 = .ok (.iaload, 1) := by decide +kernel
theorem dX8_allPlaces_29 : decode cX8_allPlaces 29 = .ok (.iadd, 1) := by decide +kernel
theorem dX8_allPlaces_30 : decode cX8_allPlaces 30 = .ok (.istore_n 1, 1) := by decide +kernel
theorem dX8_allPlaces_31 : decode cX8_allPlaces 31 = .ok (.iinc 2 1, 3) := by decide +kernel
theorem dX8_allPlaces_34 : decode cX8_allPlaces 34 = .ok (.goto (-30), 3) := by decide +kernel
theorem dX8_allPlaces_37 : decode cX8_allPlaces 37 = .ok (.iload_n 1, 1) := by decide +kernel
theorem dX8_allPlaces_38 : decode cX8_allPlaces 38 = .ok (.ireturn, 1) := by decide +kernel
theorem dX8_tooSoon_0 : decode cX8_tooSoon 0 = .ok (.iconst 0, 1) := by decide +kernel
theorem dX8_tooSoon_1 : decode cX8_tooSoon 1 = .ok (.istore_n 1, 1) := by decide +kernel
theorem dX8_tooSoon_2 : decode cX8_tooSoon 2 = .ok (.iconst 0, 1) := by decide +kernel
theorem dX8_tooSoon_3 : decode cX8_tooSoon 3 = .ok (.istore_n 2, 1) := by decide +kernel
theorem dX8_tooSoon_4 : decode cX8_tooSoon 4 = .ok (.iload_n 2, 1) := by decide +kernel
theorem dX8_tooSoon_5 : decode cX8_tooSoon 5 = .ok (.aload_n 0, 1) := by decide +kernel
theorem dX8_tooSoon_6 : decode cX8_tooSoon 6 = .ok (.getfield 88, 3) := by decide +kernel
theorem dX8_tooSoon_9 : decode cX8_tooSoon 9 = .ok (.if_icmp .ge 25, 3) := by decide +kernel
theorem dX8_tooSoon_12 : decode cX8_tooSoon 12 = .ok (.iload_n 1, 1) := by decide +kernel
theorem dX8_tooSoon_13 : decode cX8_tooSoon 13 = .ok (.aload_n 0, 1) := by decide +kernel
theorem dX8_tooSoon_14 : decode cX8_tooSoon 14 = .ok (.iload_n 2, 1) := by decide +kernel
theorem dX8_tooSoon_15 : decode cX8_tooSoon 15 = .ok (.invokevirtual 182, 3) := by decide +kernel
theorem dX8_tooSoon_18 : decode cX8_tooSoon 18 = .ok (.ifCond .ge 7, 3) := by decide +kernel
theorem dX8_tooSoon_21 : decode cX8_tooSoon 21 = .ok (.iconst 1, 1) := by decide +kernel
theorem dX8_tooSoon_22 : decode cX8_tooSoon 22 = .ok (.goto 4, 3) := by decide +kernel
theorem dX8_tooSoon_25 : decode cX8_tooSoon 25 = .ok (.iconst 0, 1) := by decide +kernel
theorem dX8_tooSoon_26 : decode cX8_tooSoon 26 = .ok (.iadd, 1) := by decide +kernel
theorem dX8_tooSoon_27 : decode cX8_tooSoon 27 = .ok (.istore_n 1, 1) := by decide +kernel
theorem dX8_tooSoon_28 : decode cX8_tooSoon 28 = .ok (.iinc 2 1, 3) := by decide +kernel
theorem dX8_tooSoon_31 : decode cX8_tooSoon 31 = .ok (.goto (-27), 3) := by decide +kernel
theorem dX8_tooSoon_34 : decode cX8_tooSoon 34 = .ok (.iload_n 1, 1) := by decide +kernel
theorem dX8_tooSoon_35 : decode cX8_tooSoon 35 = .ok (.ireturn, 1) := by decide +kernel
theorem dX8_count_0 : decode cX8_count 0 = .ok (.iload_n 1, 1) := by decide +kernel
theorem dX8_count_1 : decode cX8_count 1 = .ok (.tableswitch 107 0 9 #[55, 60, 65, 70, 75, 80, 87, 92, 97, 102], 55) := by decide +kernel
theorem dX8_count_56 : decode cX8_count 56 = .ok (.aload_n 0, 1) := by decide +kernel
theorem dX8_count_57 : decode cX8_count 57 = .ok (.getfield 84, 3) := by decide +kernel
theorem dX8_count_60 : decode cX8_count 60 = .ok (.ireturn, 1) := by decide +kernel
theorem dX8_count_61 : decode cX8_count 61 = .ok (.aload_n 0, 1) := by decide +kernel
theorem dX8_count_62 : decode cX8_count 62 = .ok (.getfield 88, 3) := by decide +kernel
theorem dX8_count_65 : decode cX8_count 65 = .ok (.ireturn, 1) := by decide +kernel
theorem dX8_count_66 : decode cX8_count 66 = .ok (.aload_n 0, 1) := by decide +kernel
theorem dX8_count_67 : decode cX8_count 67 = .ok (.getfield 91, 3) := by decide +kernel
theorem dX8_count_70 : decode cX8_count 70 = .ok (.ireturn, 1) := by decide +kernel
theorem dX8_count_71 : decode cX8_count 71 = .ok (.aload_n 0, 1) := by decide +kernel
theorem dX8_count_72 : decode cX8_count 72 = .ok (.getfield 94, 3) := by decide +kernel
theorem dX8_count_75 : decode cX8_count 75 = .ok (.ireturn, 1) := by decide +kernel
theorem dX8_count_76 : decode cX8_count 76 = .ok (.aload_n 0, 1) := by decide +kernel
theorem dX8_count_77 : decode cX8_count 77 = .ok (.getfield 97, 3) := by decide +kernel
theorem dX8_count_80 : decode cX8_count 80 = .ok (.ireturn, 1) := by decide +kernel
theorem dX8_count_81 : decode cX8_count 81 = .ok (.aload_n 0, 1) := by decide +kernel
theorem dX8_count_82 : decode cX8_count 82 = .ok (.getfield 7, 3) := by decide +kernel
theorem dX8_count_85 : decode cX8_count 85 = .ok (.iconst 0, 1) := by decide +kernel
theorem dX8_count_86 : decode cX8_count 86 = .ok (.iaload, 1) := by decide +kernel
theorem dX8_count_87 : decode cX8_count 87 = .ok (.ireturn, 1) := by decide +kernel
theorem dX8_count_88 : decode cX8_count 88 = .ok (.aload_n 0, 1) := by decide +kernel
theorem dX8_count_89 : decode cX8_count 89 = .ok (.invokevirtual 271, 3) := by decide +kernel
theorem dX8_count_92 : decode cX8_count 92 = .ok (.ireturn, 1) := by decide +kernel
theorem dX8_count_93 : decode cX8_count 93 = .ok (.aload_n 0, 1) := by decide +kernel
theorem dX8_count_94 : decode cX8_count 94 = .ok (.getfield 172, 3) := by decide +kernel
theorem dX8_count_97 : decode cX8_count 97 = .ok (.ireturn, 1) := by decide +kernel
theorem dX8_count_98 : decode cX8_count 98 = .ok (.aload_n 0, 1) := by decide +kernel
theorem dX8_count_99 : decode cX8_count 99 = .ok (.getfield 106, 3) := by decide +kernel
theorem dX8_count_102 : decode cX8_count 102 = .ok (.ireturn, 1) := by decide +kernel
theorem dX8_count_103 : decode cX8_count 103 = .ok (.aload_n 0, 1) := by decide +kernel
theorem dX8_count_104 : decode cX8_count 104 = .ok (.invokevirtual 274, 3) := by decide +kernel
theorem dX8_count_107 : decode cX8_count 107 = .ok (.ireturn, 1) := by decide +kernel
theorem dX8_count_108 : decode cX8_count 108 = .ok (.bipush (-3), 2) := by decide +kernel
theorem dX8_count_110 : decode cX8_count 110 = .ok (.ireturn, 1) := by decide +kernel
