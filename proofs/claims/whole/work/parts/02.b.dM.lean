theorem dX8_init_0 : decode cX8_init 0 = .ok (.aload_n 0, 1) := by decide +kernel
theorem dX8_init_1 : decode cX8_init 1 = .ok (.invokespecial 1, 3) := by decide +kernel
theorem dX8_init_4 : decode cX8_init 4 = .ok (.aload_n 0, 1) := by decide +kernel
theorem dX8_init_5 : decode cX8_init 5 = .ok (.bipush 48, 2) := by decide +kernel
theorem dX8_init_7 : decode cX8_init 7 = .ok (.newarray .int, 2) := by decide +kernel
theorem dX8_init_9 : decode cX8_init 9 = .ok (.dup, 1) := by decide +kernel
theorem dX8_init_10 : decode cX8_init 10 = .ok (.iconst 0, 1) := by decide +kernel
theorem dX8_init_11 : decode cX8_init 11 = .ok (.bipush 104, 2) := by decide +kernel
theorem dX8_init_13 : decode cX8_init 13 = .ok (.iastore, 1) := by decide +kernel
theorem dX8_init_14 : decode cX8_init 14 = .ok (.dup, 1) := by decide +kernel
theorem dX8_init_15 : decode cX8_init 15 = .ok (.iconst 1, 1) := by decide +kernel
theorem dX8_init_16 : decode cX8_init 16 = .ok (.bipush 111, 2) := by decide +kernel
theorem dX8_init_18 : decode cX8_init 18 = .ok (.iastore, 1) := by decide +kernel
theorem dX8_init_19 : decode cX8_init 19 = .ok (.dup, 1) := by decide +kernel
theorem dX8_init_20 : decode cX8_init 20 = .ok (.iconst 2, 1) := by decide +kernel
theorem dX8_init_21 : decode cX8_init 21 = .ok (.bipush 117, 2) := by decide +kernel
theorem dX8_init_23 : decode cX8_init 23 = .ok (.iastore, 1) := by decide +kernel
theorem dX8_init_24 : decode cX8_init 24 = .ok (.dup, 1) := by decide +kernel
theorem dX8_init_25 : decode cX8_init 25 = .ok (.iconst 3, 1) := by decide +kernel
theorem dX8_init_26 : decode cX8_init 26 = .ok (.bipush 115, 2) := by decide +kernel
theorem dX8_init_28 : decode cX8_init 28 = .ok (.iastore, 1) := by decide +kernel
theorem dX8_init_29 : decode cX8_init 29 = .ok (.dup, 1) := by decide +kernel
theorem dX8_init_30 : decode cX8_init 30 = .ok (.iconst 4, 1) := by decide +kernel
theorem dX8_init_31 : decode cX8_init 31 = .ok (.bipush 101, 2) := by decide +kernel
theorem dX8_init_33 : decode cX8_init 33 = .ok (.iastore, 1) := by decide +kernel
theorem dX8_init_34 : decode cX8_init 34 = .ok (.dup, 1) := by decide +kernel
theorem dX8_init_35 : decode cX8_init 35 = .ok (.iconst 5, 1) := by decide +kernel
theorem dX8_init_36 : decode cX8_init 36 = .ok (.iconst 0, 1) := by decide +kernel
theorem dX8_init_37 : decode cX8_init 37 = .ok (.iastore, 1) := by decide +kernel
theorem dX8_init_38 : decode cX8_init 38 = .ok (.dup, 1) := by decide +kernel
theorem dX8_init_39 : decode cX8_init 39 = .ok (.bipush 6, 2) := by decide +kernel
theorem dX8_init_41 : decode cX8_init 41 = .ok (.iconst 0, 1) := by decide +kernel
theorem dX8_init_42 : decode cX8_init 42 = .ok (.iastore, 1) := by decide +kernel
theorem dX8_init_43 : decode cX8_init 43 = .ok (.dup, 1) := by decide +kernel
theorem dX8_init_44 : decode cX8_init 44 = .ok (.bipush 7, 2) := by decide +kernel
theorem dX8_init_46 : decode cX8_init 46 = .ok (.iconst 0, 1) := by decide +kernel
theorem dX8_init_47 : decode cX8_init 47 = .ok (.iastore, 1) := by decide +kernel
theorem dX8_init_48 : decode cX8_init 48 = .ok (.dup, 1) := by decide +kernel
theorem dX8_init_49 : decode cX8_init 49 = .ok (.bipush 8, 2) := by decide +kernel
theorem dX8_init_51 : decode cX8_init 51 = .ok (.bipush 108, 2) := by decide +kernel
theorem dX8_init_53 : decode cX8_init 53 = .ok (.iastore, 1) := by decide +kernel
theorem dX8_init_54 : decode cX8_init 54 = .ok (.dup, 1) := by decide +kernel
theorem dX8_init_55 : decode cX8_init 55 = .ok (.bipush 9, 2) := by decide +kernel
theorem dX8_init_57 : decode cX8_init 57 = .ok (.bipush 97, 2) := by decide +kernel
theorem dX8_init_59 : decode cX8_init 59 = .ok (.iastore, 1) := by decide +kernel
theorem dX8_init_60 : decode cX8_init 60 = .ok (.dup, 1) := by decide +kernel
theorem dX8_init_61 : decode cX8_init 61 = .ok (.bipush 10, 2) := by decide +kernel
theorem dX8_init_63 : decode cX8_init 63 = .ok (.bipush 110, 2) := by decide +kernel
theorem dX8_init_65 : decode cX8_init 65 = .ok (.iastore, 1) := by decide +kernel
theorem dX8_init_66 : decode cX8_init 66 = .ok (.dup, 1) := by decide +kernel
theorem dX8_init_67 : decode cX8_init 67 = .ok (.bipush 11, 2) := by decide +kernel
theorem dX8_init_69 : decode cX8_init 69 = .ok (.bipush 100, 2) := by decide +kernel
theorem dX8_init_71 : decode cX8_init 71 = .ok (.iastore, 1) := by decide +kernel
theorem dX8_init_72 : decode cX8_init 72 = .ok (.dup, 1) := by decide +kernel
theorem dX8_init_73 : decode cX8_init 73 = .ok (.bipush 12, 2) := by decide +kernel
theorem dX8_init_75 : decode cX8_init 75 = .ok (.bipush 108, 2) := by decide +kernel
theorem dX8_init_77 : decode cX8_init 77 = .ok (.iastore, 1) := by decide +kernel
theorem dX8_init_78 : decode cX8_init 78 = .ok (.dup, 1) := by decide +kernel
theorem dX8_init_79 : decode cX8_init 79 = .ok (.bipush 13, 2) := by decide +kernel
theorem dX8_init_81 : decode cX8_init 81 = .ok (.bipush 97, 2) := by decide +kernel
theorem dX8_init_83 : decode cX8_init 83 = .ok (.iastore, 1) := by decide +kernel
theorem dX8_init_84 : decode cX8_init 84 = .ok (.dup, 1) := by decide +kernel
theorem dX8_init_85 : decode cX8_init 85 = .ok (.bipush 14, 2) := by decide +kernel
theorem dX8_init_87 : decode cX8_init 87 = .ok (.bipush 100, 2) := by decide +kernel
theorem dX8_init_89 : decode cX8_init 89 = .ok (.iastore, 1) := by decide +kernel
theorem dX8_init_90 : decode cX8_init 90 = .ok (.dup, 1) := by decide +kernel
theorem dX8_init_91 : decode cX8_init 91 = .ok (.bipush 15, 2) := by decide +kernel
theorem dX8_init_93 : decode cX8_init 93 = .ok (.bipush 121, 2) := by decide +kernel
theorem dX8_init_95 : decode cX8_init 95 = .ok (.iastore, 1) := by decide +kernel
theorem dX8_init_96 : decode cX8_init 96 = .ok (.dup, 1) := by decide +kernel
theorem dX8_init_97 : decode cX8_init 97 = .ok (.bipush 16, 2) := by decide +kernel
theorem dX8_init_99 : decode cX8_init 99 = .ok (.bipush 108, 2) := by decide +kernel
theorem dX8_init_101 : decode cX8_init 101 = .ok (.iastore, 1) := by decide +kernel
theorem dX8_init_102 : decode cX8_init 102 = .ok (.dup, 1) := by decide +kernel
theorem dX8_init_103 : decode cX8_init 103 = .ok (.bipush 17, 2) := by decide +kernel
theorem dX8_init_105 : decode cX8_init 105 = .ok (.bipush 111, 2) := by decide +kernel
theorem dX8_init_107 : decode cX8_init 107 = .ok (.iastore, 1) := by decide +kernel
theorem dX8_init_108 : decode cX8_init 108 = .ok (.dup, 1) := by decide +kernel
theorem dX8_init_109 : decode cX8_init 109 = .ok (.bipush 18, 2) := by decide +kernel
theorem dX8_init_111 : decode cX8_init 111 = .ok (.bipush 100, 2) := by decide +kernel
theorem dX8_init_113 : decode cX8_init 113 = .ok (.iastore, 1) := by decide +kernel
theorem dX8_init_114 : decode cX8_init 114 = .ok (.dup, 1) := by decide +kernel
theorem dX8_init_115 : decode cX8_init 115 = .ok (.bipush 19, 2) := by decide +kernel
theorem dX8_init_117 : decode cX8_init 117 = .ok (.bipush 103, 2) := by decide +kernel
theorem dX8_init_119 : decode cX8_init 119 = .ok (.iastore, 1) := by decide +kernel
theorem dX8_init_120 : decode cX8_init 120 = .ok (.dup, 1) := by decide +kernel
theorem dX8_init_121 : decode cX8_init 121 = .ok (.bipush 20, 2) := by decide +kernel
theorem dX8_init_123 : decode cX8_init 123 = .ok (.bipush 101, 2) := by decide +kernel
theorem dX8_init_125 : decode cX8_init 125 = .ok (.iastore, 1) := by decide +kernel
theorem dX8_init_126 : decode cX8_init 126 = .ok (.dup, 1) := by decide +kernel
theorem dX8_init_127 : decode cX8_init 127 = .ok (.bipush 21, 2) := by decide +kernel
theorem dX8_init_129 : decode cX8_init 129 = .ok (.bipush 114, 2) := by decide +kernel
theorem dX8_init_131 : decode cX8_init 131 = .ok (.iastore, 1) := by decide +kernel
theorem dX8_init_132 : decode cX8_init 132 = .ok (.dup, 1) := by decide +kernel
theorem dX8_init_133 : decode cX8_init 133 = .ok (.bipush 22, 2) := by decide +kernel
theorem dX8_init_135 : decode cX8_init 135 = .ok (.iconst 0, 1) := by decide +kernel
theorem dX8_init_136 : decode cX8_init 136 = .ok (.iastore, 1) := by decide +kernel
theorem dX8_init_137 : decode cX8_init 137 = .ok (.dup, 1) := by decide +kernel
theorem dX8_init_138 : decode cX8_init 138 = .ok (.bipush 23, 2) := by decide +kernel
theorem dX8_init_140 : decode cX8_init 140 = .ok (.iconst 0, 1) := by decide +kernel
theorem dX8_init_141 : decode cX8_init 141 = .ok (.iastore, 1) := by decide +kernel
theorem dX8_init_142 : decode cX8_init 142 = .ok (.dup, 1) := by decide +kernel
theorem dX8_init_143 : decode cX8_init 143 = .ok (.bipush 24, 2) := by decide +kernel
theorem dX8_init_145 : decode cX8_init 145 = .ok (.bipush 112, 2) := by decide +kernel
theorem dX8_init_147 : decode cX8_init 147 = .ok (.iastore, 1) := by decide +kernel
theorem dX8_init_148 : decode cX8_init 148 = .ok (.dup, 1) := by decide +kernel
theorem dX8_init_149 : decode cX8_init 149 = .ok (.bipush 25, 2) := by decide +kernel
theorem dX8_init_151 : decode cX8_init 151 = .ok (.bipush 97, 2) := by decide +kernel
theorem dX8_init_153 : decode cX8_init 153 = .ok (.iastore, 1) := by decide +kernel
theorem dX8_init_154 : decode cX8_init 154 = .ok (.dup, 1) := by decide +kernel
theorem dX8_init_155 : decode cX8_init 155 = .ok (.bipush 26, 2) := by decide +kernel
theorem dX8_init_157 : decode cX8_init 157 = .ok (.bipush 121, 2) := by decide +kernel
theorem dX8_init_159 : decode cX8_init 159 = .ok (.iastore, 1) := by decide +kernel
theorem dX8_init_160 : decode cX8_init 160 = .ok (.dup, 1) := by decide +kernel
theorem dX8_init_161 : decode cX8_init 161 = .ok (.bipush 27, 2) := by decide +kernel
theorem dX8_init_163 : decode cX8_init 163 = .ok (.iconst 0, 1) := by decide +kernel
theorem dX8_init_164 : decode cX8_init 164 = .ok (.iastore, 1) := by decide +kernel
theorem dX8_init_165 : decode cX8_init 165 = .ok (.dup, 1) := by decide +kernel
theorem dX8_init_166 : decode cX8_init 166 = .ok (.bipush 28, 2) := by decide +kernel
theorem dX8_init_168 : decode cX8_init 168 = .ok (.iconst 0, 1) := by decide +kernel
theorem dX8_init_169 : decode cX8_init 169 = .ok (.iastore, 1) := by decide +kernel
theorem dX8_init_170 : decode cX8_init 170 = .ok (.dup, 1) := by decide +kernel
theorem dX8_init_171 : decode cX8_init 171 = .ok (.bipush 29, 2) := by decide +kernel
theorem dX8_init_173 : decode cX8_init 173 = .ok (.iconst 0, 1) := by decide +kernel
theorem dX8_init_174 : decode cX8_init 174 = .ok (.iastore, 1) := by decide +kernel
theorem dX8_init_175 : decode cX8_init 175 = .ok (.dup, 1) := by decide +kernel
theorem dX8_init_176 : decode cX8_init 176 = .ok (.bipush 30, 2) := by decide +kernel
theorem dX8_init_178 : decode cX8_init 178 = .ok (.iconst 0, 1) := by decide +kernel
theorem dX8_init_179 : decode cX8_init 179 = .ok (.iastore, 1) := by decide +kernel
theorem dX8_init_180 : decode cX8_init 180 = .ok (.dup, 1) := by decide +kernel
theorem dX8_init_181 : decode cX8_init 181 = .ok (.bipush 31, 2) := by decide +kernel
theorem dX8_init_183 : decode cX8_init 183 = .ok (.iconst 0, 1) := by decide +kernel
theorem dX8_init_184 : decode cX8_init 184 = .ok (.iastore, 1) := by decide +kernel
theorem dX8_init_185 : decode cX8_init 185 = .ok (.dup, 1) := by decide +kernel
theorem dX8_init_186 : decode cX8_init 186 = .ok (.bipush 32, 2) := by decide +kernel
theorem dX8_init_188 : decode cX8_init 188 = .ok (.bipush 109, 2) := by decide +kernel
theorem dX8_init_190 : decode cX8_init 190 = .ok (.iastore, 1) := by decide +kernel
theorem dX8_init_191 : decode cX8_init 191 = .ok (.dup, 1) := by decide +kernel
theorem dX8_init_192 : decode cX8_init 192 = .ok (.bipush 33, 2) := by decide +kernel
theorem dX8_init_194 : decode cX8_init 194 = .ok (.bipush 111, 2) := by decide +kernel
theorem dX8_init_196 : decode cX8_init 196 = .ok (.iastore, 1) := by decide +kernel
theorem dX8_init_197 : decode cX8_init 197 = .ok (.dup, 1) := by decide +kernel
theorem dX8_init_198 : decode cX8_init 198 = .ok (.bipush 34, 2) := by decide +kernel
theorem dX8_init_200 : decode cX8_init 200 = .ok (.bipush 118, 2) := by decide +kernel
theorem dX8_init_202 : decode cX8_init 202 = .ok (.iastore, 1) := by decide +kernel
theorem dX8_init_203 : decode cX8_init 203 = .ok (.dup, 1) := by decide +kernel
theorem dX8_init_204 : decode cX8_init 204 = .ok (.bipush 35, 2) := by decide +kernel
theorem dX8_init_206 : decode cX8_init 206 = .ok (.bipush 101, 2) := by decide +kernel
theorem dX8_init_208 : decode cX8_init 208 = .ok (.iastore, 1) := by decide +kernel
theorem dX8_init_209 : decode cX8_init 209 = .ok (.dup, 1) := by decide +kernel
theorem dX8_init_210 : decode cX8_init 210 = .ok (.bipush 36, 2) := by decide +kernel
theorem dX8_init_212 : decode cX8_init 212 = .ok (.iconst 0, 1) := by decide +kernel
theorem dX8_init_213 : decode cX8_init 213 = .ok (.iastore, 1) := by decide +kernel
theorem dX8_init_214 : decode cX8_init 214 = .ok (.dup, 1) := by decide +kernel
theorem dX8_init_215 : decode cX8_init 215 = .ok (.bipush 37, 2) := by decide +kernel
theorem dX8_init_217 : decode cX8_init 217 = .ok (.iconst 0, 1) := by decide +kernel
theorem dX8_init_218 : decode cX8_init 218 = .ok (.iastore, 1) := by decide +kernel
theorem dX8_init_219 : decode cX8_init 219 = .ok (.dup, 1) := by decide +kernel
theorem dX8_init_220 : decode cX8_init 220 = .ok (.bipush 38, 2) := by decide +kernel
theorem dX8_init_222 : decode cX8_init 222 = .ok (.iconst 0, 1) := by decide +kernel
theorem dX8_init_223 : decode cX8_init 223 = .ok (.iastore, 1) := by decide +kernel
theorem dX8_init_224 : decode cX8_init 224 = .ok (.dup, 1) := by decide +kernel
theorem dX8_init_225 : decode cX8_init 225 = .ok (.bipush 39, 2) := by decide +kernel
theorem dX8_init_227 : decode cX8_init 227 = .ok (.iconst 0, 1) := by decide +kernel
theorem dX8_init_228 : decode cX8_init 228 = .ok (.iastore, 1) := by decide +kernel
theorem dX8_init_229 : decode cX8_init 229 = .ok (.dup, 1) := by decide +kernel
theorem dX8_init_230 : decode cX8_init 230 = .ok (.bipush 40, 2) := by decide +kernel
theorem dX8_init_232 : decode cX8_init 232 = .ok (.bipush 100, 2) := by decide +kernel
theorem dX8_init_234 : decode cX8_init 234 = .ok (.iastore, 1) := by decide +kernel
theorem dX8_init_235 : decode cX8_init 235 = .ok (.dup, 1) := by decide +kernel
theorem dX8_init_236 : decode cX8_init 236 = .ok (.bipush 41, 2) := by decide +kernel
theorem dX8_init_238 : decode cX8_init 238 = .ok (.bipush 97, 2) := by decide +kernel
theorem dX8_init_240 : decode cX8_init 240 = .ok (.iastore, 1) := by decide +kernel
theorem dX8_init_241 : decode cX8_init 241 = .ok (.dup, 1) := by decide +kernel
theorem dX8_init_242 : decode cX8_init 242 = .ok (.bipush 42, 2) := by decide +kernel
theorem dX8_init_244 : decode cX8_init 244 = .ok (.bipush 121, 2) := by decide +kernel
theorem dX8_init_246 : decode cX8_init 246 = .ok (.iastore, 1) := by decide +kernel
theorem dX8_init_247 : decode cX8_init 247 = .ok (.dup, 1) := by decide +kernel
theorem dX8_init_248 : decode cX8_init 248 = .ok (.bipush 43, 2) := by decide +kernel
theorem dX8_init_250 : decode cX8_init 250 = .ok (.bipush 115, 2) := by decide +kernel
theorem dX8_init_252 : decode cX8_init 252 = .ok (.iastore, 1) := by decide +kernel
theorem dX8_init_253 : decode cX8_init 253 = .ok (.dup, 1) := by decide +kernel
theorem dX8_init_254 : decode cX8_init 254 = .ok (.bipush 44, 2) := by decide +kernel
theorem dX8_init_256 : decode cX8_init 256 = .ok (.iconst 0, 1) := by decide +kernel
theorem dX8_init_257 : decode cX8_init 257 = .ok (.iastore, 1) := by decide +kernel
theorem dX8_init_258 : decode cX8_init 258 = .ok (.dup, 1) := by decide +kernel
theorem dX8_init_259 : decode cX8_init 259 = .ok (.bipush 45, 2) := by decide +kernel
theorem dX8_init_261 : decode cX8_init 261 = .ok (.iconst 0, 1) := by decide +kernel
theorem dX8_init_262 : decode cX8_init 262 = .ok (.iastore, 1) := by decide +kernel
theorem dX8_init_263 : decode cX8_init 263 = .ok (.dup, 1) := by decide +kernel
theorem dX8_init_264 : decode cX8_init 264 = .ok (.bipush 46, 2) := by decide +kernel
theorem dX8_init_266 : decode cX8_init 266 = .ok (.iconst 0, 1) := by decide +kernel
theorem dX8_init_267 : decode cX8_init 267 = .ok (.iastore, 1) := by decide +kernel
theorem dX8_init_268 : decode cX8_init 268 = .ok (.dup, 1) := by decide +kernel
theorem dX8_init_269 : decode cX8_init 269 = .ok (.bipush 47, 2) := by decide +kernel
theorem dX8_init_271 : decode cX8_init 271 = .ok (.iconst 0, 1) := by decide +kernel
theorem dX8_init_272 : decode cX8_init 272 = .ok (.iastore, 1) := by decide +kernel
theorem dX8_init_273 : decode cX8_init 273 = .ok (.putfield 7, 3) := by decide +kernel
theorem dX8_init_276 : decode cX8_init 276 = .ok (.aload_n 0, 1) := by decide +kernel
theorem dX8_init_277 : decode cX8_init 277 = .ok (.bipush 24, 2) := by decide +kernel
theorem dX8_init_279 : decode cX8_init 279 = .ok (.newarray .int, 2) := by decide +kernel
theorem dX8_init_281 : decode cX8_init 281 = .ok (.dup, 1) := by decide +kernel
theorem dX8_init_282 : decode cX8_init 282 = .ok (.iconst 0, 1) := by decide +kernel
theorem dX8_init_283 : decode cX8_init 283 = .ok (.bipush 97, 2) := by decide +kernel
theorem dX8_init_285 : decode cX8_init 285 = .ok (.iastore, 1) := by decide +kernel
theorem dX8_init_286 : decode cX8_init 286 = .ok (.dup, 1) := by decide +kernel
theorem dX8_init_287 : decode cX8_init 287 = .ok (.iconst 1, 1) := by decide +kernel
theorem dX8_init_288 : decode cX8_init 288 = .ok (.bipush 110, 2) := by decide +kernel
theorem dX8_init_290 : decode cX8_init 290 = .ok (.iastore, 1) := by decide +kernel
theorem dX8_init_291 : decode cX8_init 291 = .ok (.dup, 1) := by decide +kernel
theorem dX8_init_292 : decode cX8_init 292 = .ok (.iconst 2, 1) := by decide +kernel
theorem dX8_init_293 : decode cX8_init 293 = .ok (.bipush 110, 2) := by decide +kernel
theorem dX8_init_295 : decode cX8_init 295 = .ok (.iastore, 1) := by decide +kernel
theorem dX8_init_296 : decode cX8_init 296 = .ok (.dup, 1) := by decide +kernel
theorem dX8_init_297 : decode cX8_init 297 = .ok (.iconst 3, 1) := by decide +kernel
theorem dX8_init_298 : decode cX8_init 298 = .ok (.iconst 0, 1) := by decide +kernel
theorem dX8_init_299 : decode cX8_init 299 = .ok (.iastore, 1) := by decide +kernel
theorem dX8_init_300 : decode cX8_init 300 = .ok (.dup, 1) := by decide +kernel
theorem dX8_init_301 : decode cX8_init 301 = .ok (.iconst 4, 1) := by decide +kernel
theorem dX8_init_302 : decode cX8_init 302 = .ok (.bipush 20, 2) := by decide +kernel
theorem dX8_init_304 : decode cX8_init 304 = .ok (.iastore, 1) := by decide +kernel
theorem dX8_init_305 : decode cX8_init 305 = .ok (.dup, 1) := by decide +kernel
theorem dX8_init_306 : decode cX8_init 306 = .ok (.iconst 5, 1) := by decide +kernel
theorem dX8_init_307 : decode cX8_init 307 = .ok (.ldc 13, 2) := by decide +kernel
theorem dX8_init_309 : decode cX8_init 309 = .ok (.iastore, 1) := by decide +kernel
theorem dX8_init_310 : decode cX8_init 310 = .ok (.dup, 1) := by decide +kernel
theorem dX8_init_311 : decode cX8_init 311 = .ok (.bipush 6, 2) := by decide +kernel
theorem dX8_init_313 : decode cX8_init 313 = .ok (.bipush 98, 2) := by decide +kernel
theorem dX8_init_315 : decode cX8_init 315 = .ok (.iastore, 1) := by decide +kernel
theorem dX8_init_316 : decode cX8_init 316 = .ok (.dup, 1) := by decide +kernel
theorem dX8_init_317 : decode cX8_init 317 = .ok (.bipush 7, 2) := by decide +kernel
theorem dX8_init_319 : decode cX8_init 319 = .ok (.bipush 111, 2) := by decide +kernel
theorem dX8_init_321 : decode cX8_init 321 = .ok (.iastore, 1) := by decide +kernel
theorem dX8_init_322 : decode cX8_init 322 = .ok (.dup, 1) := by decide +kernel
theorem dX8_init_323 : decode cX8_init 323 = .ok (.bipush 8, 2) := by decide +kernel
theorem dX8_init_325 : decode cX8_init 325 = .ok (.bipush 98, 2) := by decide +kernel
theorem dX8_init_327 : decode cX8_init 327 = .ok (.iastore, 1) := by decide +kernel
theorem dX8_init_328 : decode cX8_init 328 = .ok (.dup, 1) := by decide +kernel
theorem dX8_init_329 : decode cX8_init 329 = .ok (.bipush 9, 2) := by decide +kernel
theorem dX8_init_331 : decode cX8_init 331 = .ok (.iconst 0, 1) := by decide +kernel
theorem dX8_init_332 : decode cX8_init 332 = .ok (.iastore, 1) := by decide +kernel
theorem dX8_init_333 : decode cX8_init 333 = .ok (.dup, 1) := by decide +kernel
theorem dX8_init_334 : decode cX8_init 334 = .ok (.bipush 10, 2) := by decide +kernel
theorem dX8_init_336 : decode cX8_init 336 = .ok (.iconst 3, 1) := by decide +kernel
theorem dX8_init_337 : decode cX8_init 337 = .ok (.iastore, 1) := by decide +kernel
theorem dX8_init_338 : decode cX8_init 338 = .ok (.dup, 1) := by decide +kernel
theorem dX8_init_339 : decode cX8_init 339 = .ok (.bipush 11, 2) := by decide +kernel
theorem dX8_init_341 : decode cX8_init 341 = .ok (.sipush 4444, 3) := by decide +kernel
theorem dX8_init_344 : decode cX8_init 344 = .ok (.iastore, 1) := by decide +kernel
theorem dX8_init_345 : decode cX8_init 345 = .ok (.dup, 1) := by decide +kernel
theorem dX8_init_346 : decode cX8_init 346 = .ok (.bipush 12, 2) := by decide +kernel
theorem dX8_init_348 : decode cX8_init 348 = .ok (.bipush 99, 2) := by decide +kernel
theorem dX8_init_350 : decode cX8_init 350 = .ok (.iastore, 1) := by decide +kernel
theorem dX8_init_351 : decode cX8_init 351 = .ok (.dup, 1) := by decide +kernel
theorem dX8_init_352 : decode cX8_init 352 = .ok (.bipush 13, 2) := by decide +kernel
theorem dX8_init_354 : decode cX8_init 354 = .ok (.bipush 105, 2) := by decide +kernel
theorem dX8_init_356 : decode cX8_init 356 = .ok (.iastore, 1) := by decide +kernel
theorem dX8_init_357 : decode cX8_init 357 = .ok (.dup, 1) := by decide +kernel
theorem dX8_init_358 : decode cX8_init 358 = .ok (.bipush 14, 2) := by decide +kernel
theorem dX8_init_360 : decode cX8_init 360 = .ok (.bipush 100, 2) := by decide +kernel
theorem dX8_init_362 : decode cX8_init 362 = .ok (.iastore, 1) := by decide +kernel
theorem dX8_init_363 : decode cX8_init 363 = .ok (.dup, 1) := by decide +kernel
theorem dX8_init_364 : decode cX8_init 364 = .ok (.bipush 15, 2) := by decide +kernel
theorem dX8_init_366 : decode cX8_init 366 = .ok (.iconst 1, 1) := by decide +kernel
theorem dX8_init_367 : decode cX8_init 367 = .ok (.iastore, 1) := by decide +kernel
theorem dX8_init_368 : decode cX8_init 368 = .ok (.dup, 1) := by decide +kernel
theorem dX8_init_369 : decode cX8_init 369 = .ok (.bipush 16, 2) := by decide +kernel
theorem dX8_init_371 : decode cX8_init 371 = .ok (.iconst 0, 1) := by decide +kernel
theorem dX8_init_372 : decode cX8_init 372 = .ok (.iastore, 1) := by decide +kernel
theorem dX8_init_373 : decode cX8_init 373 = .ok (.dup, 1) := by decide +kernel
theorem dX8_init_374 : decode cX8_init 374 = .ok (.bipush 17, 2) := by decide +kernel
theorem dX8_init_376 : decode cX8_init 376 = .ok (.ldc 14, 2) := by decide +kernel
theorem dX8_init_378 : decode cX8_init 378 = .ok (.iastore, 1) := by decide +kernel
theorem dX8_init_379 : decode cX8_init 379 = .ok (.dup, 1) := by decide +kernel
theorem dX8_init_380 : decode cX8_init 380 = .ok (.bipush 18, 2) := by decide +kernel
theorem dX8_init_382 : decode cX8_init 382 = .ok (.bipush 100, 2) := by decide +kernel
theorem dX8_init_384 : decode cX8_init 384 = .ok (.iastore, 1) := by decide +kernel
theorem dX8_init_385 : decode cX8_init 385 = .ok (.dup, 1) := by decide +kernel
theorem dX8_init_386 : decode cX8_init 386 = .ok (.bipush 19, 2) := by decide +kernel
theorem dX8_init_388 : decode cX8_init 388 = .ok (.bipush 111, 2) := by decide +kernel
theorem dX8_init_390 : decode cX8_init 390 = .ok (.iastore, 1) := by decide +kernel
theorem dX8_init_391 : decode cX8_init 391 = .ok (.dup, 1) := by decide +kernel
theorem dX8_init_392 : decode cX8_init 392 = .ok (.bipush 20, 2) := by decide +kernel
theorem dX8_init_394 : decode cX8_init 394 = .ok (.bipush 116, 2) := by decide +kernel
theorem dX8_init_396 : decode cX8_init 396 = .ok (.iastore, 1) := by decide +kernel
theorem dX8_init_397 : decode cX8_init 397 = .ok (.dup, 1) := by decide +kernel
theorem dX8_init_398 : decode cX8_init 398 = .ok (.bipush 21, 2) := by decide +kernel
theorem dX8_init_400 : decode cX8_init 400 = .ok (.iconst 1, 1) := by decide +kernel
theorem dX8_init_401 : decode cX8_init 401 = .ok (.iastore, 1) := by decide +kernel
theorem dX8_init_402 : decode cX8_init 402 = .ok (.dup, 1) := by decide +kernel
theorem dX8_init_403 : decode cX8_init 403 = .ok (.bipush 22, 2) := by decide +kernel
theorem dX8_init_405 : decode cX8_init 405 = .ok (.bipush 40, 2) := by decide +kernel
theorem dX8_init_407 : decode cX8_init 407 = .ok (.iastore, 1) := by decide +kernel
theorem dX8_init_408 : decode cX8_init 408 = .ok (.dup, 1) := by decide +kernel
theorem dX8_init_409 : decode cX8_init 409 = .ok (.bipush 23, 2) := by decide +kernel
theorem dX8_init_411 : decode cX8_init 411 = .ok (.ldc 15, 2) := by decide +kernel
theorem dX8_init_413 : decode cX8_init 413 = .ok (.iastore, 1) := by decide +kernel
theorem dX8_init_414 : decode cX8_init 414 = .ok (.putfield 16, 3) := by decide +kernel
theorem dX8_init_417 : decode cX8_init 417 = .ok (.aload_n 0, 1) := by decide +kernel
theorem dX8_init_418 : decode cX8_init 418 = .ok (.sipush 205, 3) := by decide +kernel
theorem dX8_init_421 : decode cX8_init 421 = .ok (.newarray .int, 2) := by decide +kernel
theorem dX8_init_423 : decode cX8_init 423 = .ok (.putfield 19, 3) := by decide +kernel
theorem dX8_init_426 : decode cX8_init 426 = .ok (.aload_n 0, 1) := by decide +kernel
theorem dX8_init_427 : decode cX8_init 427 = .ok (.sipush 205, 3) := by decide +kernel
theorem dX8_init_430 : decode cX8_init 430 = .ok (.newarray .int, 2) := by decide +kernel
theorem dX8_init_432 : decode cX8_init 432 = .ok (.putfield 22, 3) := by decide +kernel
theorem dX8_init_435 : decode cX8_init 435 = .ok (.aload_n 0, 1) := by decide +kernel
theorem dX8_init_436 : decode cX8_init 436 = .ok (.sipush 2050, 3) := by decide +kernel
theorem dX8_init_439 : decode cX8_init 439 = .ok (.newarray .int, 2) := by decide +kernel
theorem dX8_init_441 : decode cX8_init 441 = .ok (.putfield 25, 3) := by decide +kernel
theorem dX8_init_444 : decode cX8_init 444 = .ok (.aload_n 0, 1) := by decide +kernel
theorem dX8_init_445 : decode cX8_init 445 = .ok (.sipush 410, 3) := by decide +kernel
theorem dX8_init_448 : decode cX8_init 448 = .ok (.newarray .int, 2) := by decide +kernel
theorem dX8_init_450 : decode cX8_init 450 = .ok (.putfield 28, 3) := by decide +kernel
theorem dX8_init_453 : decode cX8_init 453 = .ok (.aload_n 0, 1) := by decide +kernel
theorem dX8_init_454 : decode cX8_init 454 = .ok (.bipush 25, 2) := by decide +kernel
theorem dX8_init_456 : decode cX8_init 456 = .ok (.newarray .int, 2) := by decide +kernel
theorem dX8_init_458 : decode cX8_init 458 = .ok (.putfield 31, 3) := by decide +kernel
theorem dX8_init_461 : decode cX8_init 461 = .ok (.aload_n 0, 1) := by decide +kernel
theorem dX8_init_462 : decode cX8_init 462 = .ok (.iconst 5, 1) := by decide +kernel
theorem dX8_init_463 : decode cX8_init 463 = .ok (.newarray .int, 2) := by decide +kernel
theorem dX8_init_465 : decode cX8_init 465 = .ok (.putfield 34, 3) := by decide +kernel
theorem dX8_init_468 : decode cX8_init 468 = .ok (.aload_n 0, 1) := by decide +kernel
theorem dX8_init_469 : decode cX8_init 469 = .ok (.iconst (-1), 1) := by decide +kernel
theorem dX8_init_470 : decode cX8_init 470 = .ok (.putfield 37, 3) := by decide +kernel
theorem dX8_init_473 : decode cX8_init 473 = .ok (.aload_n 0, 1) := by decide +kernel
theorem dX8_init_474 : decode cX8_init 474 = .ok (.sipush 600, 3) := by decide +kernel
theorem dX8_init_477 : decode cX8_init 477 = .ok (.newarray .byte, 2) := by decide +kernel
theorem dX8_init_479 : decode cX8_init 479 = .ok (.putfield 41, 3) := by decide +kernel
theorem dX8_init_482 : decode cX8_init 482 = .ok (.aload_n 0, 1) := by decide +kernel
theorem dX8_init_483 : decode cX8_init 483 = .ok (.bipush 60, 2) := by decide +kernel
theorem dX8_init_485 : decode cX8_init 485 = .ok (.newarray .char, 2) := by decide +kernel
theorem dX8_init_487 : decode cX8_init 487 = .ok (.putfield 45, 3) := by decide +kernel
theorem dX8_init_490 : decode cX8_init 490 = .ok (.aload_n 0, 1) := by decide +kernel
theorem dX8_init_491 : decode cX8_init 491 = .ok (.iconst (-1), 1) := by decide +kernel
theorem dX8_init_492 : decode cX8_init 492 = .ok (.putfield 49, 3) := by decide +kernel
theorem dX8_init_495 : decode cX8_init 495 = .ok (.aload_n 0, 1) := by decide +kernel
theorem dX8_init_496 : decode cX8_init 496 = .ok (.getfield 19, 3) := by decide +kernel
theorem dX8_init_499 : decode cX8_init 499 = .ok (.iconst 0, 1) := by decide +kernel
theorem dX8_init_500 : decode cX8_init 500 = .ok (.iconst 5, 1) := by decide +kernel
theorem dX8_init_501 : decode cX8_init 501 = .ok (.iastore, 1) := by decide +kernel
theorem dX8_init_502 : decode cX8_init 502 = .ok (.aload_n 0, 1) := by decide +kernel
theorem dX8_init_503 : decode cX8_init 503 = .ok (.getfield 19, 3) := by decide +kernel
theorem dX8_init_506 : decode cX8_init 506 = .ok (.iconst 1, 1) := by decide +kernel
theorem dX8_init_507 : decode cX8_init 507 = .ok (.bipush 6, 2) := by decide +kernel
theorem dX8_init_509 : decode cX8_init 509 = .ok (.iastore, 1) := by decide +kernel
theorem dX8_init_510 : decode cX8_init 510 = .ok (.iconst 0, 1) := by decide +kernel
theorem dX8_init_511 : decode cX8_init 511 = .ok (.istore_n 1, 1) := by decide +kernel
theorem dX8_init_512 : decode cX8_init 512 = .ok (.iload_n 1, 1) := by decide +kernel
theorem dX8_init_513 : decode cX8_init 513 = .ok (.iconst 5, 1) := by decide +kernel
theorem dX8_init_514 : decode cX8_init 514 = .ok (.if_icmp .ge 18, 3) := by decide +kernel
theorem dX8_init_517 : decode cX8_init 517 = .ok (.aload_n 0, 1) := by decide +kernel
theorem dX8_init_518 : decode cX8_init 518 = .ok (.getfield 19, 3) := by decide +kernel
theorem dX8_init_521 : decode cX8_init 521 = .ok (.iconst 2, 1) := by decide +kernel
theorem dX8_init_522 : decode cX8_init 522 = .ok (.iload_n 1, 1) := by decide +kernel
theorem dX8_init_523 : decode cX8_init 523 = .ok (.iadd, 1) := by decide +kernel
theorem dX8_init_524 : decode cX8_init 524 = .ok (.iconst 4, 1) := by decide +kernel
theorem dX8_init_525 : decode cX8_init 525 = .ok (.iastore, 1) := by decide +kernel
theorem dX8_init_526 : decode cX8_init 526 = .ok (.iinc 1 1, 3) := by decide +kernel
theorem dX8_init_529 : decode cX8_init 529 = .ok (.goto (-17), 3) := by decide +kernel
theorem dX8_init_532 : decode cX8_init 532 = .ok (.iconst 0, 1) := by decide +kernel
theorem dX8_init_533 : decode cX8_init 533 = .ok (.istore_n 1, 1) := by decide +kernel
theorem dX8_init_534 : decode cX8_init 534 = .ok (.iload_n 1, 1) := by decide +kernel
theorem dX8_init_535 : decode cX8_init 535 = .ok (.iconst 4, 1) := by decide +kernel
theorem dX8_init_536 : decode cX8_init 536 = .ok (.if_icmp .ge 84, 3) := by decide +kernel
theorem dX8_init_539 : decode cX8_init 539 = .ok (.aload_n 0, 1) := by decide +kernel
theorem dX8_init_540 : decode cX8_init 540 = .ok (.aload_n 0, 1) := by decide +kernel
theorem dX8_init_541 : decode cX8_init 541 = .ok (.getfield 16, 3) := by decide +kernel
theorem dX8_init_544 : decode cX8_init 544 = .ok (.bipush 6, 2) := by decide +kernel
theorem dX8_init_546 : decode cX8_init 546 = .ok (.iload_n 1, 1) := by decide +kernel
theorem dX8_init_547 : decode cX8_init 547 = .ok (.imul, 1) := by decide +kernel
theorem dX8_init_548 : decode cX8_init 548 = .ok (.iconst 3, 1) := by decide +kernel
theorem dX8_init_549 : decode cX8_init 549 = .ok (.iadd, 1) := by decide +kernel
theorem dX8_init_550 : decode cX8_init 550 = .ok (.iaload, 1) := by decide +kernel
theorem dX8_init_551 : decode cX8_init 551 = .ok (.aload_n 0, 1) := by decide +kernel
theorem dX8_init_552 : decode cX8_init 552 = .ok (.getfield 16, 3) := by decide +kernel
theorem dX8_init_555 : decode cX8_init 555 = .ok (.bipush 6, 2) := by decide +kernel
theorem dX8_init_557 : decode cX8_init 557 = .ok (.iload_n 1, 1) := by decide +kernel
theorem dX8_init_558 : decode cX8_init 558 = .ok (.imul, 1) := by decide +kernel
theorem dX8_init_559 : decode cX8_init 559 = .ok (.iconst 4, 1) := by decide +kernel
theorem dX8_init_560 : decode cX8_init 560 = .ok (.iadd, 1) := by decide +kernel
theorem dX8_init_561 : decode cX8_init 561 = .ok (.iaload, 1) := by decide +kernel
theorem dX8_init_562 : decode cX8_init 562 = .ok (.aload_n 0, 1) := by decide +kernel
theorem dX8_init_563 : decode cX8_init 563 = .ok (.getfield 16, 3) := by decide +kernel
theorem dX8_init_566 : decode cX8_init 566 = .ok (.bipush 6, 2) := by decide +kernel
theorem dX8_init_568 : decode cX8_init 568 = .ok (.iload_n 1, 1) := by decide +kernel
theorem dX8_init_569 : decode cX8_init 569 = .ok (.imul, 1) := by decide +kernel
theorem dX8_init_570 : decode cX8_init 570 = .ok (.iconst 5, 1) := by decide +kernel
theorem dX8_init_571 : decode cX8_init 571 = .ok (.iadd, 1) := by decide +kernel
theorem dX8_init_572 : decode cX8_init 572 = .ok (.iaload, 1) := by decide +kernel
theorem dX8_init_573 : decode cX8_init 573 = .ok (.invokevirtual 52, 3) := by decide +kernel
theorem dX8_init_576 : decode cX8_init 576 = .ok (.iconst 0, 1) := by decide +kernel
theorem dX8_init_577 : decode cX8_init 577 = .ok (.istore_n 2, 1) := by decide +kernel
theorem dX8_init_578 : decode cX8_init 578 = .ok (.iload_n 2, 1) := by decide +kernel
theorem dX8_init_579 : decode cX8_init 579 = .ok (.iconst 3, 1) := by decide +kernel
theorem dX8_init_580 : decode cX8_init 580 = .ok (.if_icmp .ge 34, 3) := by decide +kernel
theorem dX8_init_583 : decode cX8_init 583 = .ok (.aload_n 0, 1) := by decide +kernel
theorem dX8_init_584 : decode cX8_init 584 = .ok (.getfield 19, 3) := by decide +kernel
theorem dX8_init_587 : decode cX8_init 587 = .ok (.iload_n 1, 1) := by decide +kernel
theorem dX8_init_588 : decode cX8_init 588 = .ok (.invokestatic 56, 3) := by decide +kernel
theorem dX8_init_591 : decode cX8_init 591 = .ok (.bipush 10, 2) := by decide +kernel
theorem dX8_init_593 : decode cX8_init 593 = .ok (.iadd, 1) := by decide +kernel
theorem dX8_init_594 : decode cX8_init 594 = .ok (.iload_n 2, 1) := by decide +kernel
theorem dX8_init_595 : decode cX8_init 595 = .ok (.iadd, 1) := by decide +kernel
theorem dX8_init_596 : decode cX8_init 596 = .ok (.aload_n 0, 1) := by decide +kernel
theorem dX8_init_597 : decode cX8_init 597 = .ok (.getfield 16, 3) := by decide +kernel
theorem dX8_init_600 : decode cX8_init 600 = .ok (.bipush 6, 2) := by decide +kernel
theorem dX8_init_602 : decode cX8_init 602 = .ok (.iload_n 1, 1) := by decide +kernel
theorem dX8_init_603 : decode cX8_init 603 = .ok (.imul, 1) := by decide +kernel
theorem dX8_init_604 : decode cX8_init 604 = .ok (.iload_n 2, 1) := by decide +kernel
theorem dX8_init_605 : decode cX8_init 605 = .ok (.iadd, 1) := by decide +kernel
theorem dX8_init_606 : decode cX8_init 606 = .ok (.iaload, 1) := by decide +kernel
theorem dX8_init_607 : decode cX8_init 607 = .ok (.iastore, 1) := by decide +kernel
theorem dX8_init_608 : decode cX8_init 608 = .ok (.iinc 2 1, 3) := by decide +kernel
theorem dX8_init_611 : decode cX8_init 611 = .ok (.goto (-33), 3) := by decide +kernel
theorem dX8_init_614 : decode cX8_init 614 = .ok (.iinc 1 1, 3) := by decide +kernel
theorem dX8_init_617 : decode cX8_init 617 = .ok (.goto (-83), 3) := by decide +kernel
theorem dX8_init_620 : decode cX8_init 620 = .ok (.aload_n 0, 1) := by decide +kernel
theorem dX8_init_621 : decode cX8_init 621 = .ok (.invokevirtual 60, 3) := by decide +kernel
theorem dX8_init_624 : decode cX8_init 624 = .ok (.return_, 1) := by decide +kernel
theorem dX8_thrown_0 : decode cX8_thrown 0 = .ok (.aload_n 0, 1) := by decide +kernel
theorem dX8_thrown_1 : decode cX8_thrown 1 = .ok (.getfield 63, 3) := by decide +kernel
theorem dX8_thrown_4 : decode cX8_thrown 4 = .ok (.ireturn, 1) := by decide +kernel
theorem dX8_refuse_0 : decode cX8_refuse 0 = .ok (.aload_n 0, 1) := by decide +kernel
theorem dX8_refuse_1 : decode cX8_refuse 1 = .ok (.iload_n 1, 1) := by decide +kernel
theorem dX8_refuse_2 : decode cX8_refuse 2 = .ok (.putfield 63, 3) := by decide +kernel
theorem dX8_refuse_5 : decode cX8_refuse 5 = .ok (.iconst 0, 1) := by decide +kernel
theorem dX8_refuse_6 : decode cX8_refuse 6 = .ok (.ireturn, 1) := by decide +kernel
theorem dX8_told_0 : decode cX8_told 0 = .ok (.aload_n 0, 1) := by decide +kernel
theorem dX8_told_1 : decode cX8_told 1 = .ok (.iconst 0, 1) := by decide +kernel
theorem dX8_told_2 : decode cX8_told 2 = .ok (.putfield 63, 3) := by decide +kernel
theorem dX8_told_5 : decode cX8_told 5 = .ok (.iload_n 1, 1) := by decide +kernel
theorem dX8_told_6 : decode cX8_told 6 = .ok (.ireturn, 1) := by decide +kernel
theorem dX8_says_0 : decode cX8_says 0 = .ok (.aload_n 0, 1) := by decide +kernel
theorem dX8_says_1 : decode cX8_says 1 = .ok (.iconst 0, 1) := by decide +kernel
theorem dX8_says_2 : decode cX8_says 2 = .ok (.putfield 63, 3) := by decide +kernel
theorem dX8_says_5 : decode cX8_says 5 = .ok (.iload_n 1, 1) := by decide +kernel
theorem dX8_says_6 : decode cX8_says 6 = .ok (.ireturn, 1) := by decide +kernel
theorem dX8_in_0 : decode cX8_in 0 = .ok (.iload_n 0, 1) := by decide +kernel
theorem dX8_in_1 : decode cX8_in 1 = .ok (.iload_n 1, 1) := by decide +kernel
theorem dX8_in_2 : decode cX8_in 2 = .ok (.if_icmp .lt 12, 3) := by decide +kernel
theorem dX8_in_5 : decode cX8_in 5 = .ok (.iload_n 0, 1) := by decide +kernel
theorem dX8_in_6 : decode cX8_in 6 = .ok (.iload_n 2, 1) := by decide +kernel
theorem dX8_in_7 : decode cX8_in 7 = .ok (.if_icmp .gt 7, 3) := by decide +kernel
theorem dX8_in_10 : decode cX8_in 10 = .ok (.iconst 1, 1) := by decide +kernel
theorem dX8_in_11 : decode cX8_in 11 = .ok (.goto 4, 3) := by decide +kernel
theorem dX8_in_14 : decode cX8_in 14 = .ok (.iconst 0, 1) := by decide +kernel
theorem dX8_in_15 : decode cX8_in 15 = .ok (.ireturn, 1) := by decide +kernel
theorem dX8_without_0 : decode cX8_without 0 = .ok (.iload_n 0, 1) := by decide +kernel
theorem dX8_without_1 : decode cX8_without 1 = .ok (.ifCond .ge 8, 3) := by decide +kernel
theorem dX8_without_4 : decode cX8_without 4 = .ok (.iload_n 0, 1) := by decide +kernel
theorem dX8_without_5 : decode cX8_without 5 = .ok (.ineg, 1) := by decide +kernel
theorem dX8_without_6 : decode cX8_without 6 = .ok (.goto 4, 3) := by decide +kernel
theorem dX8_without_9 : decode cX8_without 9 = .ok (.iload_n 0, 1) := by decide +kernel
theorem dX8_without_10 : decode cX8_without 10 = .ok (.ireturn, 1) := by decide +kernel
theorem dX8_l_0 : decode cX8_l 0 = .ok (.bipush 13, 2) := by decide +kernel
theorem dX8_l_2 : decode cX8_l 2 = .ok (.bipush 16, 2) := by decide +kernel
theorem dX8_l_4 : decode cX8_l 4 = .ok (.iload_n 0, 1) := by decide +kernel
theorem dX8_l_5 : decode cX8_l 5 = .ok (.imul, 1) := by decide +kernel
theorem dX8_l_6 : decode cX8_l 6 = .ok (.iadd, 1) := by decide +kernel
theorem dX8_l_7 : decode cX8_l 7 = .ok (.ireturn, 1) := by decide +kernel
theorem dX8_isLodger_0 : decode cX8_isLodger 0 = .ok (.iload_n 1, 1) := by decide +kernel
theorem dX8_isLodger_1 : decode cX8_isLodger 1 = .ok (.iconst 0, 1) := by decide +kernel
theorem dX8_isLodger_2 : decode cX8_isLodger 2 = .ok (.aload_n 0, 1) := by decide +kernel
theorem dX8_isLodger_3 : decode cX8_isLodger 3 = .ok (.getfield 19, 3) := by decide +kernel
theorem dX8_isLodger_6 : decode cX8_isLodger 6 = .ok (.bipush 7, 2) := by decide +kernel
theorem dX8_isLodger_8 : decode cX8_isLodger 8 = .ok (.iaload, 1) := by decide +kernel
theorem dX8_isLodger_9 : decode cX8_isLodger 9 = .ok (.iconst 1, 1) := by decide +kernel
theorem dX8_isLodger_10 : decode cX8_isLodger 10 = .ok (.isub, 1) := by decide +kernel
theorem dX8_isLodger_11 : decode cX8_isLodger 11 = .ok (.invokestatic 66, 3) := by decide +kernel
theorem dX8_isLodger_14 : decode cX8_isLodger 14 = .ok (.ireturn, 1) := by decide +kernel
theorem dX8_isFloor_0 : decode cX8_isFloor 0 = .ok (.iload_n 0, 1) := by decide +kernel
theorem dX8_isFloor_1 : decode cX8_isFloor 1 = .ok (.iconst 0, 1) := by decide +kernel
theorem dX8_isFloor_2 : decode cX8_isFloor 2 = .ok (.iconst 4, 1) := by decide +kernel
theorem dX8_isFloor_3 : decode cX8_isFloor 3 = .ok (.invokestatic 66, 3) := by decide +kernel
theorem dX8_isFloor_6 : decode cX8_isFloor 6 = .ok (.ireturn, 1) := by decide +kernel
theorem dX8_isVowel_0 : decode cX8_isVowel 0 = .ok (.iload_n 0, 1) := by decide +kernel
theorem dX8_isVowel_1 : decode cX8_isVowel 1 = .ok (.iconst 0, 1) := by decide +kernel
theorem dX8_isVowel_2 : decode cX8_isVowel 2 = .ok (.iconst 4, 1) := by decide +kernel
theorem dX8_isVowel_3 : decode cX8_isVowel 3 = .ok (.invokestatic 66, 3) := by decide +kernel
theorem dX8_isVowel_6 : decode cX8_isVowel 6 = .ok (.ireturn, 1) := by decide +kernel
theorem dX8_at_0 : decode cX8_at 0 = .ok (.aload_n 0, 1) := by decide +kernel
theorem dX8_at_1 : decode cX8_at 1 = .ok (.getfield 19, 3) := by decide +kernel
theorem dX8_at_4 : decode cX8_at 4 = .ok (.iload_n 1, 1) := by decide +kernel
theorem dX8_at_5 : decode cX8_at 5 = .ok (.invokestatic 56, 3) := by decide +kernel
theorem dX8_at_8 : decode cX8_at 8 = .ok (.iconst 5, 1) := by decide +kernel
theorem dX8_at_9 : decode cX8_at 9 = .ok (.iadd, 1) := by decide +kernel
theorem dX8_at_10 : decode cX8_at 10 = .ok (.iload_n 2, 1) := by decide +kernel
theorem dX8_at_11 : decode cX8_at 11 = .ok (.iadd, 1) := by decide +kernel
theorem dX8_at_12 : decode cX8_at 12 = .ok (.iaload, 1) := by decide +kernel
theorem dX8_at_13 : decode cX8_at 13 = .ok (.ireturn, 1) := by decide +kernel
theorem dX8_comes_0 : decode cX8_comes 0 = .ok (.aload_n 0, 1) := by decide +kernel
theorem dX8_comes_1 : decode cX8_comes 1 = .ok (.getfield 19, 3) := by decide +kernel
theorem dX8_comes_4 : decode cX8_comes 4 = .ok (.bipush 7, 2) := by decide +kernel
theorem dX8_comes_6 : decode cX8_comes 6 = .ok (.iaload, 1) := by decide +kernel
theorem dX8_comes_7 : decode cX8_comes 7 = .ok (.invokestatic 56, 3) := by decide +kernel
theorem dX8_comes_10 : decode cX8_comes 10 = .ok (.istore 4, 2) := by decide +kernel
theorem dX8_comes_12 : decode cX8_comes 12 = .ok (.iconst 0, 1) := by decide +kernel
theorem dX8_comes_13 : decode cX8_comes 13 = .ok (.istore 5, 2) := by decide +kernel
theorem dX8_comes_15 : decode cX8_comes 15 = .ok (.iload 5, 2) := by decide +kernel
theorem dX8_comes_17 : decode cX8_comes 17 = .ok (.bipush 16, 2) := by decide +kernel
theorem dX8_comes_19 : decode cX8_comes 19 = .ok (.if_icmp .ge 20, 3) := by decide +kernel
theorem dX8_comes_22 : decode cX8_comes 22 = .ok (.aload_n 0, 1) := by decide +kernel
theorem dX8_comes_23 : decode cX8_comes 23 = .ok (.getfield 19, 3) := by decide +kernel
theorem dX8_comes_26 : decode cX8_comes 26 = .ok (.iload 4, 2) := by decide +kernel
theorem dX8_comes_28 : decode cX8_comes 28 = .ok (.iload 5, 2) := by decide +kernel
theorem dX8_comes_30 : decode cX8_comes 30 = .ok (.iadd, 1) := by decide +kernel
theorem dX8_comes_31 : decode cX8_comes 31 = .ok (.iconst 0, 1) := by decide +kernel
theorem dX8_comes_32 : decode cX8_comes 32 = .ok (.iastore, 1) := by decide +kernel
theorem dX8_comes_33 : decode cX8_comes 33 = .ok (.iinc 5 1, 3) := by decide +kernel
theorem dX8_comes_36 : decode cX8_comes 36 = .ok (.goto (-21), 3) := by decide +kernel
theorem dX8_comes_39 : decode cX8_comes 39 = .ok (.aload_n 0, 1) := by decide +kernel
theorem dX8_comes_40 : decode cX8_comes 40 = .ok (.getfield 19, 3) := by decide +kernel
theorem dX8_comes_43 : decode cX8_comes 43 = .ok (.iload 4, 2) := by decide +kernel
theorem dX8_comes_45 : decode cX8_comes 45 = .ok (.iconst 0, 1) := by decide +kernel
theorem dX8_comes_46 : decode cX8_comes 46 = .ok (.iadd, 1) := by decide +kernel
theorem dX8_comes_47 : decode cX8_comes 47 = .ok (.iload_n 1, 1) := by decide +kernel
theorem dX8_comes_48 : decode cX8_comes 48 = .ok (.iastore, 1) := by decide +kernel
theorem dX8_comes_49 : decode cX8_comes 49 = .ok (.aload_n 0, 1) := by decide +kernel
theorem dX8_comes_50 : decode cX8_comes 50 = .ok (.getfield 19, 3) := by decide +kernel
theorem dX8_comes_53 : decode cX8_comes 53 = .ok (.iload 4, 2) := by decide +kernel
theorem dX8_comes_55 : decode cX8_comes 55 = .ok (.iconst 1, 1) := by decide +kernel
theorem dX8_comes_56 : decode cX8_comes 56 = .ok (.iadd, 1) := by decide +kernel
theorem dX8_comes_57 : decode cX8_comes 57 = .ok (.iload_n 2, 1) := by decide +kernel
theorem dX8_comes_58 : decode cX8_comes 58 = .ok (.iastore, 1) := by decide +kernel
theorem dX8_comes_59 : decode cX8_comes 59 = .ok (.aload_n 0, 1) := by decide +kernel
theorem dX8_comes_60 : decode cX8_comes 60 = .ok (.getfield 19, 3) := by decide +kernel
theorem dX8_comes_63 : decode cX8_comes 63 = .ok (.iload 4, 2) := by decide +kernel
theorem dX8_comes_65 : decode cX8_comes 65 = .ok (.iconst 4, 1) := by decide +kernel
theorem dX8_comes_66 : decode cX8_comes 66 = .ok (.iadd, 1) := by decide +kernel
theorem dX8_comes_67 : decode cX8_comes 67 = .ok (.aload_n 0, 1) := by decide +kernel
theorem dX8_comes_68 : decode cX8_comes 68 = .ok (.getfield 19, 3) := by decide +kernel
theorem dX8_comes_71 : decode cX8_comes 71 = .ok (.bipush 8, 2) := by decide +kernel
theorem dX8_comes_73 : decode cX8_comes 73 = .ok (.iaload, 1) := by decide +kernel
theorem dX8_comes_74 : decode cX8_comes 74 = .ok (.iastore, 1) := by decide +kernel
theorem dX8_comes_75 : decode cX8_comes 75 = .ok (.aload_n 0, 1) := by decide +kernel
theorem dX8_comes_76 : decode cX8_comes 76 = .ok (.getfield 19, 3) := by decide +kernel
theorem dX8_comes_79 : decode cX8_comes 79 = .ok (.bipush 10, 2) := by decide +kernel
theorem dX8_comes_81 : decode cX8_comes 81 = .ok (.dup2, 1) := by decide +kernel
theorem dX8_comes_82 : decode cX8_comes 82 = .ok (.iaload, 1) := by decide +kernel
theorem dX8_comes_83 : decode cX8_comes 83 = .ok (.iload_n 2, 1) := by decide +kernel
theorem dX8_comes_84 : decode cX8_comes 84 = .ok (.iadd, 1) := by decide +kernel
theorem dX8_comes_85 : decode cX8_comes 85 = .ok (.iastore, 1) := by decide +kernel
theorem dX8_comes_86 : decode cX8_comes 86 = .ok (.iload_n 3, 1) := by decide +kernel
theorem dX8_comes_87 : decode cX8_comes 87 = .ok (.istore 5, 2) := by decide +kernel
theorem dX8_comes_89 : decode cX8_comes 89 = .ok (.iconst 4, 1) := by decide +kernel
theorem dX8_comes_90 : decode cX8_comes 90 = .ok (.istore 6, 2) := by decide +kernel
theorem dX8_comes_92 : decode cX8_comes 92 = .ok (.iload 6, 2) := by decide +kernel
theorem dX8_comes_94 : decode cX8_comes 94 = .ok (.ifCond .lt 33, 3) := by decide +kernel
theorem dX8_comes_97 : decode cX8_comes 97 = .ok (.aload_n 0, 1) := by decide +kernel
theorem dX8_comes_98 : decode cX8_comes 98 = .ok (.getfield 19, 3) := by decide +kernel
theorem dX8_comes_101 : decode cX8_comes 101 = .ok (.iload 4, 2) := by decide +kernel
theorem dX8_comes_103 : decode cX8_comes 103 = .ok (.iconst 5, 1) := by decide +kernel
theorem dX8_comes_104 : decode cX8_comes 104 = .ok (.iadd, 1) := by decide +kernel
theorem dX8_comes_105 : decode cX8_comes 105 = .ok (.iload 6, 2) := by decide +kernel
theorem dX8_comes_107 : decode cX8_comes 107 = .ok (.iadd, 1) := by decide +kernel
theorem dX8_comes_108 : decode cX8_comes 108 = .ok (.iload 5, 2) := by decide +kernel
theorem dX8_comes_110 : decode cX8_comes 110 = .ok (.bipush 10, 2) := by decide +kernel
theorem dX8_comes_112 : decode cX8_comes 112 = .ok (.irem, 1) := by decide +kernel
theorem dX8_comes_113 : decode cX8_comes 113 = .ok (.iastore, 1) := by decide +kernel
theorem dX8_comes_114 : decode cX8_comes 114 = .ok (.iload 5, 2) := by decide +kernel
theorem dX8_comes_116 : decode cX8_comes 116 = .ok (.bipush 10, 2) := by decide +kernel
theorem dX8_comes_118 : decode cX8_comes 118 = .ok (.idiv, 1) := by decide +kernel
theorem dX8_comes_119 : decode cX8_comes 119 = .ok (.istore 5, 2) := by decide +kernel
theorem dX8_comes_121 : decode cX8_comes 121 = .ok (.iinc 6 (-1), 3) := by decide +kernel
theorem dX8_comes_124 : decode cX8_comes 124 = .ok (.goto (-32), 3) := by decide +kernel
theorem dX8_comes_127 : decode cX8_comes 127 = .ok (.aload_n 0, 1) := by decide +kernel
theorem dX8_comes_128 : decode cX8_comes 128 = .ok (.getfield 19, 3) := by decide +kernel
theorem dX8_comes_131 : decode cX8_comes 131 = .ok (.bipush 7, 2) := by decide +kernel
theorem dX8_comes_133 : decode cX8_comes 133 = .ok (.dup2, 1) := by decide +kernel
theorem dX8_comes_134 : decode cX8_comes 134 = .ok (.iaload, 1) := by decide +kernel
theorem dX8_comes_135 : decode cX8_comes 135 = .ok (.iconst 1, 1) := by decide +kernel
theorem dX8_comes_136 : decode cX8_comes 136 = .ok (.iadd, 1) := by decide +kernel
theorem dX8_comes_137 : decode cX8_comes 137 = .ok (.iastore, 1) := by decide +kernel
theorem dX8_comes_138 : decode cX8_comes 138 = .ok (.return_, 1) := by decide +kernel
theorem dX8_goes_0 : decode cX8_goes 0 = .ok (.aload_n 0, 1) := by decide +kernel
theorem dX8_goes_1 : decode cX8_goes 1 = .ok (.getfield 19, 3) := by decide +kernel
theorem dX8_goes_4 : decode cX8_goes 4 = .ok (.iload_n 1, 1) := by decide +kernel
theorem dX8_goes_5 : decode cX8_goes 5 = .ok (.invokestatic 56, 3) := by decide +kernel
theorem dX8_goes_8 : decode cX8_goes 8 = .ok (.iconst 1, 1) := by decide +kernel
theorem dX8_goes_9 : decode cX8_goes 9 = .ok (.iadd, 1) := by decide +kernel
theorem dX8_goes_10 : decode cX8_goes 10 = .ok (.iaload, 1) := by decide +kernel
theorem dX8_goes_11 : decode cX8_goes 11 = .ok (.istore_n 2, 1) := by decide +kernel
theorem dX8_goes_12 : decode cX8_goes 12 = .ok (.aload_n 0, 1) := by decide +kernel
theorem dX8_goes_13 : decode cX8_goes 13 = .ok (.getfield 19, 3) := by decide +kernel
theorem dX8_goes_16 : decode cX8_goes 16 = .ok (.bipush 12, 2) := by decide +kernel
theorem dX8_goes_18 : decode cX8_goes 18 = .ok (.dup2, 1) := by decide +kernel
theorem dX8_goes_19 : decode cX8_goes 19 = .ok (.iaload, 1) := by decide +kernel
theorem dX8_goes_20 : decode cX8_goes 20 = .ok (.iload_n 2, 1) := by decide +kernel
theorem dX8_goes_21 : decode cX8_goes 21 = .ok (.iadd, 1) := by decide +kernel
theorem dX8_goes_22 : decode cX8_goes 22 = .ok (.iastore, 1) := by decide +kernel
theorem dX8_goes_23 : decode cX8_goes 23 = .ok (.aload_n 0, 1) := by decide +kernel
theorem dX8_goes_24 : decode cX8_goes 24 = .ok (.getfield 19, 3) := by decide +kernel
theorem dX8_goes_27 : decode cX8_goes 27 = .ok (.bipush 7, 2) := by decide +kernel
theorem dX8_goes_29 : decode cX8_goes 29 = .ok (.dup2, 1) := by decide +kernel
theorem dX8_goes_30 : decode cX8_goes 30 = .ok (.iaload, 1) := by decide +kernel
theorem dX8_goes_31 : decode cX8_goes 31 = .ok (.iconst 1, 1) := by decide +kernel
theorem dX8_goes_32 : decode cX8_goes 32 = .ok (.isub, 1) := by decide +kernel
theorem dX8_goes_33 : decode cX8_goes 33 = .ok (.iastore, 1) := by decide +kernel
theorem dX8_goes_34 : decode cX8_goes 34 = .ok (.iload_n 1, 1) := by decide +kernel
theorem dX8_goes_35 : decode cX8_goes 35 = .ok (.invokestatic 56, 3) := by decide +kernel
theorem dX8_goes_38 : decode cX8_goes 38 = .ok (.istore_n 3, 1) := by decide +kernel
theorem dX8_goes_39 : decode cX8_goes 39 = .ok (.iload_n 3, 1) := by decide +kernel
theorem dX8_goes_40 : decode cX8_goes 40 = .ok (.aload_n 0, 1) := by decide +kernel
theorem dX8_goes_41 : decode cX8_goes 41 = .ok (.getfield 19, 3) := by decide +kernel
theorem dX8_goes_44 : decode cX8_goes 44 = .ok (.bipush 7, 2) := by decide +kernel
theorem dX8_goes_46 : decode cX8_goes 46 = .ok (.iaload, 1) := by decide +kernel
theorem dX8_goes_47 : decode cX8_goes 47 = .ok (.invokestatic 56, 3) := by decide +kernel
theorem dX8_goes_50 : decode cX8_goes 50 = .ok (.if_icmp .ge 24, 3) := by decide +kernel
theorem dX8_goes_53 : decode cX8_goes 53 = .ok (.aload_n 0, 1) := by decide +kernel
theorem dX8_goes_54 : decode cX8_goes 54 = .ok (.getfield 19, 3) := by decide +kernel
theorem dX8_goes_57 : decode cX8_goes 57 = .ok (.iload_n 3, 1) := by decide +kernel
theorem dX8_goes_58 : decode cX8_goes 58 = .ok (.aload_n 0, 1) := by decide +kernel
theorem dX8_goes_59 : decode cX8_goes 59 = .ok (.getfield 19, 3) := by decide +kernel
theorem dX8_goes_62 : decode cX8_goes 62 = .ok (.iload_n 3, 1) := by decide +kernel
theorem dX8_goes_63 : decode cX8_goes 63 = .ok (.bipush 16, 2) := by decide +kernel
theorem dX8_goes_65 : decode cX8_goes 65 = .ok (.iadd, 1) := by decide +kernel
theorem dX8_goes_66 : decode cX8_goes 66 = .ok (.iaload, 1) := by decide +kernel
theorem dX8_goes_67 : decode cX8_goes 67 = .ok (.iastore, 1) := by decide +kernel
theorem dX8_goes_68 : decode cX8_goes 68 = .ok (.iinc 3 1, 3) := by decide +kernel
theorem dX8_goes_71 : decode cX8_goes 71 = .ok (.goto (-32), 3) := by decide +kernel
theorem dX8_goes_74 : decode cX8_goes 74 = .ok (.aload_n 0, 1) := by decide +kernel
theorem dX8_goes_75 : decode cX8_goes 75 = .ok (.getfield 37, 3) := by decide +kernel
theorem dX8_goes_78 : decode cX8_goes 78 = .ok (.iload_n 1, 1) := by decide +kernel
theorem dX8_goes_79 : decode cX8_goes 79 = .ok (.if_icmp .ne 16, 3) := by decide +kernel
theorem dX8_goes_82 : decode cX8_goes 82 = .ok (.aload_n 0, 1) := by decide +kernel
theorem dX8_goes_83 : decode cX8_goes 83 = .ok (.iconst (-1), 1) := by decide +kernel
theorem dX8_goes_84 : decode cX8_goes 84 = .ok (.putfield 37, 3) := by decide +kernel
theorem dX8_goes_87 : decode cX8_goes 87 = .ok (.aload_n 0, 1) := by decide +kernel
theorem dX8_goes_88 : decode cX8_goes 88 = .ok (.iload_n 2, 1) := by decide +kernel
theorem dX8_goes_89 : decode cX8_goes 89 = .ok (.putfield 70, 3) := by decide +kernel
theorem dX8_goes_92 : decode cX8_goes 92 = .ok (.goto 21, 3) := by decide +kernel
theorem dX8_goes_95 : decode cX8_goes 95 = .ok (.aload_n 0, 1) := by decide +kernel
theorem dX8_goes_96 : decode cX8_goes 96 = .ok (.getfield 37, 3) := by decide +kernel
theorem dX8_goes_99 : decode cX8_goes 99 = .ok (.iload_n 1, 1) := by decide +kernel
theorem dX8_goes_100 : decode cX8_goes 100 = .ok (.if_icmp .le 13, 3) := by decide +kernel
theorem dX8_goes_103 : decode cX8_goes 103 = .ok (.aload_n 0, 1) := by decide +kernel
theorem dX8_goes_104 : decode cX8_goes 104 = .ok (.dup, 1) := by decide +kernel
theorem dX8_goes_105 : decode cX8_goes 105 = .ok (.getfield 37, 3) := by decide +kernel
theorem dX8_goes_108 : decode cX8_goes 108 = .ok (.iconst 1, 1) := by decide +kernel
theorem dX8_goes_109 : decode cX8_goes 109 = .ok (.isub, 1) := by decide +kernel
theorem dX8_goes_110 : decode cX8_goes 110 = .ok (.putfield 37, 3) := by decide +kernel
theorem dX8_goes_113 : decode cX8_goes 113 = .ok (.return_, 1) := by decide +kernel
theorem dX8_livingOn_0 : decode cX8_livingOn 0 = .ok (.iconst 0, 1) := by decide +kernel
theorem dX8_livingOn_1 : decode cX8_livingOn 1 = .ok (.istore_n 3, 1) := by decide +kernel
theorem dX8_livingOn_2 : decode cX8_livingOn 2 = .ok (.iconst 0, 1) := by decide +kernel
theorem dX8_livingOn_3 : decode cX8_livingOn 3 = .ok (.istore 4, 2) := by decide +kernel
theorem dX8_livingOn_5 : decode cX8_livingOn 5 = .ok (.iload 4, 2) := by decide +kernel
theorem dX8_livingOn_7 : decode cX8_livingOn 7 = .ok (.aload_n 0, 1) := by decide +kernel
theorem dX8_livingOn_8 : decode cX8_livingOn 8 = .ok (.getfield 19, 3) := by decide +kernel
theorem dX8_livingOn_11 : decode cX8_livingOn 11 = .ok (.bipush 7, 2) := by decide +kernel
theorem dX8_livingOn_13 : decode cX8_livingOn 13 = .ok (.iaload, 1) := by decide +kernel
theorem dX8_livingOn_14 : decode cX8_livingOn 14 = .ok (.if_icmp .ge 39, 3) := by decide +kernel
theorem dX8_livingOn_17 : decode cX8_livingOn 17 = .ok (.iload_n 3, 1) := by decide +kernel
theorem dX8_livingOn_18 : decode cX8_livingOn 18 = .ok (.iload 4, 2) := by decide +kernel
theorem dX8_livingOn_20 : decode cX8_livingOn 20 = .ok (.iload_n 2, 1) := by decide +kernel
theorem dX8_livingOn_21 : decode cX8_livingOn 21 = .ok (.if_icmp .eq 23, 3) := by decide +kernel
theorem dX8_livingOn_24 : decode cX8_livingOn 24 = .ok (.aload_n 0, 1) := by decide +kernel
theorem dX8_livingOn_25 : decode cX8_livingOn 25 = .ok (.getfield 19, 3) := by decide +kernel
theorem dX8_livingOn_28 : decode cX8_livingOn 28 = .ok (.iload 4, 2) := by decide +kernel
theorem dX8_livingOn_30 : decode cX8_livingOn 30 = .ok (.invokestatic 56, 3) := by decide +kernel
theorem dX8_livingOn_33 : decode cX8_livingOn 33 = .ok (.iconst 0, 1) := by decide +kernel
theorem dX8_livingOn_34 : decode cX8_livingOn 34 = .ok (.iadd, 1) := by decide +kernel
theorem dX8_livingOn_35 : decode cX8_livingOn 35 = .ok (.iaload, 1) := by decide +kernel
theorem dX8_livingOn_36 : decode cX8_livingOn 36 = .ok (.iload_n 1, 1) := by decide +kernel
theorem dX8_livingOn_37 : decode cX8_livingOn 37 = .ok (.if_icmp .ne 7, 3) := by decide +kernel
theorem dX8_livingOn_40 : decode cX8_livingOn 40 = .ok (.iconst 1, 1) := by decide +kernel
theorem dX8_livingOn_41 : decode cX8_livingOn 41 = .ok (.goto 4, 3) := by decide +kernel
theorem dX8_livingOn_44 : decode cX8_livingOn 44 = .ok (.iconst 0, 1) := by decide +kernel
theorem dX8_livingOn_45 : decode cX8_livingOn 45 = .ok (.iadd, 1) := by decide +kernel
theorem dX8_livingOn_46 : decode cX8_livingOn 46 = .ok (.istore_n 3, 1) := by decide +kernel
theorem dX8_livingOn_47 : decode cX8_livingOn 47 = .ok (.iinc 4 1, 3) := by decide +kernel
theorem dX8_livingOn_50 : decode cX8_livingOn 50 = .ok (.goto (-45), 3) := by decide +kernel
theorem dX8_livingOn_53 : decode cX8_livingOn 53 = .ok (.iload_n 3, 1) := by decide +kernel
theorem dX8_livingOn_54 : decode cX8_livingOn 54 = .ok (.ireturn, 1) := by decide +kernel
theorem dX8_rentAt_0 : decode cX8_rentAt 0 = .ok (.aload_n 0, 1) := by decide +kernel
theorem dX8_rentAt_1 : decode cX8_rentAt 1 = .ok (.getfield 19, 3) := by decide +kernel
theorem dX8_rentAt_4 : decode cX8_rentAt 4 = .ok (.iconst 0, 1) := by decide +kernel
theorem dX8_rentAt_5 : decode cX8_rentAt 5 = .ok (.iaload, 1) := by decide +kernel
theorem dX8_rentAt_6 : decode cX8_rentAt 6 = .ok (.iconst 5, 1) := by decide +kernel
theorem dX8_rentAt_7 : decode cX8_rentAt 7 = .ok (.iload_n 1, 1) := by decide +kernel
theorem dX8_rentAt_8 : decode cX8_rentAt 8 = .ok (.imul, 1) := by decide +kernel
theorem dX8_rentAt_9 : decode cX8_rentAt 9 = .ok (.iadd, 1) := by decide +kernel
theorem dX8_rentAt_10 : decode cX8_rentAt 10 = .ok (.ireturn, 1) := by decide +kernel
theorem dX8_averageAt_0 : decode cX8_averageAt 0 = .ok (.iconst 0, 1) := by decide +kernel
theorem dX8_averageAt_1 : decode cX8_averageAt 1 = .ok (.istore_n 3, 1) := by decide +kernel
theorem dX8_averageAt_2 : decode cX8_averageAt 2 = .ok (.iconst 0, 1) := by decide +kernel
theorem dX8_averageAt_3 : decode cX8_averageAt 3 = .ok (.istore 4, 2) := by decide +kernel
theorem dX8_averageAt_5 : decode cX8_averageAt 5 = .ok (.iconst 0, 1) := by decide +kernel
theorem dX8_averageAt_6 : decode cX8_averageAt 6 = .ok (.istore 5, 2) := by decide +kernel
theorem dX8_averageAt_8 : decode cX8_averageAt 8 = .ok (.iload 5, 2) := by decide +kernel
theorem dX8_averageAt_10 : decode cX8_averageAt 10 = .ok (.aload_n 0, 1) := by decide +kernel
theorem dX8_averageAt_11 : decode cX8_averageAt 11 = .ok (.getfield 19, 3) := by decide +kernel
theorem dX8_averageAt_14 : decode cX8_averageAt 14 = .ok (.bipush 7, 2) := by decide +kernel
theorem dX8_averageAt_16 : decode cX8_averageAt 16 = .ok (.iaload, 1) := by decide +kernel
theorem dX8_averageAt_17 : decode cX8_averageAt 17 = .ok (.if_icmp .ge 66, 3) := by decide +kernel
theorem dX8_averageAt_20 : decode cX8_averageAt 20 = .ok (.aload_n 0, 1) := by decide +kernel
theorem dX8_averageAt_21 : decode cX8_averageAt 21 = .ok (.getfield 19, 3) := by decide +kernel
theorem dX8_averageAt_24 : decode cX8_averageAt 24 = .ok (.iload 5, 2) := by decide +kernel
theorem dX8_averageAt_26 : decode cX8_averageAt 26 = .ok (.invokestatic 56, 3) := by decide +kernel
theorem dX8_averageAt_29 : decode cX8_averageAt 29 = .ok (.iconst 0, 1) := by decide +kernel
theorem dX8_averageAt_30 : decode cX8_averageAt 30 = .ok (.iadd, 1) := by decide +kernel
theorem dX8_averageAt_31 : decode cX8_averageAt 31 = .ok (.iaload, 1) := by decide +kernel
theorem dX8_averageAt_32 : decode cX8_averageAt 32 = .ok (.iload_n 1, 1) := by decide +kernel
theorem dX8_averageAt_33 : decode cX8_averageAt 33 = .ok (.if_icmp .ne 7, 3) := by decide +kernel
theorem dX8_averageAt_36 : decode cX8_averageAt 36 = .ok (.iconst 1, 1) := by decide +kernel
theorem dX8_averageAt_37 : decode cX8_averageAt 37 = .ok (.goto 4, 3) := by decide +kernel
theorem dX8_averageAt_40 : decode cX8_averageAt 40 = .ok (.iconst 0, 1) := by decide +kernel
theorem dX8_averageAt_41 : decode cX8_averageAt 41 = .ok (.istore 6, 2) := by decide +kernel
theorem dX8_averageAt_43 : decode cX8_averageAt 43 = .ok (.iload_n 3, 1) := by decide +kernel
theorem dX8_averageAt_44 : decode cX8_averageAt 44 = .ok (.iload 6, 2) := by decide +kernel
theorem dX8_averageAt_46 : decode cX8_averageAt 46 = .ok (.ifCond .eq 13, 3) := by decide +kernel
theorem dX8_averageAt_49 : decode cX8_averageAt 49 = .ok (.aload_n 0, 1) := by decide +kernel
theorem dX8_averageAt_50 : decode cX8_averageAt 50 = .ok (.iload 5, 2) := by decide +kernel
theorem dX8_averageAt_52 : decode cX8_averageAt 52 = .ok (.iload_n 2, 1) := by decide +kernel
theorem dX8_averageAt_53 : decode cX8_averageAt 53 = .ok (.invokevirtual 73, 3) := by decide +kernel
theorem dX8_averageAt_56 : decode cX8_averageAt 56 = .ok (.goto 4, 3) := by decide +kernel
theorem dX8_averageAt_59 : decode cX8_averageAt 59 = .ok (.iconst 0, 1) := by decide +kernel
theorem dX8_averageAt_60 : decode cX8_averageAt 60 = .ok (.iadd, 1) := by decide +kernel
theorem dX8_averageAt_61 : decode cX8_averageAt 61 = .ok (.istore_n 3, 1) := by decide +kernel
theorem dX8_averageAt_62 : decode cX8_averageAt 62 = .ok (.iload 4, 2) := by decide +kernel
theorem dX8_averageAt_64 : decode cX8_averageAt 64 = .ok (.iload 6, 2) := by decide +kernel
theorem dX8_averageAt_66 : decode cX8_averageAt 66 = .ok (.ifCond .eq 7, 3) := by decide +kernel
theorem dX8_averageAt_69 : decode cX8_averageAt 69 = .ok (.iconst 1, 1) := by decide +kernel
theorem dX8_averageAt_70 : decode cX8_averageAt 70 = .ok (.goto 4, 3) := by decide +kernel
theorem dX8_averageAt_73 : decode cX8_averageAt 73 = .ok (.iconst 0, 1) := by decide +kernel
theorem dX8_averageAt_74 : decode cX8_averageAt 74 = .ok (.iadd, 1) := by decide +kernel
theorem dX8_averageAt_75 : decode cX8_averageAt 75 = .ok (.istore 4, 2) := by decide +kernel
theorem dX8_averageAt_77 : decode cX8_averageAt 77 = .ok (.iinc 5 1, 3) := by decide +kernel
theorem dX8_averageAt_80 : decode cX8_averageAt 80 = .ok (.goto (-72), 3) := by decide +kernel
theorem dX8_averageAt_83 : decode cX8_averageAt 83 = .ok (.iload 4, 2) := by decide +kernel
theorem dX8_averageAt_85 : decode cX8_averageAt 85 = .ok (.ifCond .ne 7, 3) := by decide +kernel
theorem dX8_averageAt_88 : decode cX8_averageAt 88 = .ok (.iconst 0, 1) := by decide +kernel
theorem dX8_averageAt_89 : decode cX8_averageAt 89 = .ok (.goto 7, 3) := by decide +kernel
theorem dX8_averageAt_92 : decode cX8_averageAt 92 = .ok (.iload_n 3, 1) := by decide +kernel
theorem dX8_averageAt_93 : decode cX8_averageAt 93 = .ok (.iload 4, 2) := by decide +kernel
theorem dX8_averageAt_95 : decode cX8_averageAt 95 = .ok (.idiv, 1) := by decide +kernel
theorem dX8_averageAt_96 : decode cX8_averageAt 96 = .ok (.ireturn, 1) := by decide +kernel
theorem dX8_toLandlady_0 : decode cX8_toLandlady 0 = .ok (.iconst 0, 1) := by decide +kernel
theorem dX8_toLandlady_1 : decode cX8_toLandlady 1 = .ok (.istore_n 2, 1) := by decide +kernel
theorem dX8_toLandlady_2 : decode cX8_toLandlady 2 = .ok (.iconst 0, 1) := by decide +kernel
theorem dX8_toLandlady_3 : decode cX8_toLandlady 3 = .ok (.istore_n 3, 1) := by decide +kernel
theorem dX8_toLandlady_4 : decode cX8_toLandlady 4 = .ok (.iload_n 3, 1) := by decide +kernel
theorem dX8_toLandlady_5 : decode cX8_toLandlady 5 = .ok (.iconst 5, 1) := by decide +kernel
theorem dX8_toLandlady_6 : decode cX8_toLandlady 6 = .ok (.if_icmp .ge 30, 3) := by decide +kernel
theorem dX8_toLandlady_9 : decode cX8_toLandlady 9 = .ok (.iload_n 2, 1) := by decide +kernel
theorem dX8_toLandlady_10 : decode cX8_toLandlady 10 = .ok (.aload_n 0, 1) := by decide +kernel
theorem dX8_toLandlady_11 : decode cX8_toLandlady 11 = .ok (.iload_n 1, 1) := by decide +kernel
theorem dX8_toLandlady_12 : decode cX8_toLandlady 12 = .ok (.iload_n 3, 1) := by decide +kernel
theorem dX8_toLandlady_13 : decode cX8_toLandlady 13 = .ok (.invokevirtual 73, 3) := by decide +kernel
theorem dX8_toLandlady_16 : decode cX8_toLandlady 16 = .ok (.aload_n 0, 1) := by decide +kernel
theorem dX8_toLandlady_17 : decode cX8_toLandlady 17 = .ok (.getfield 19, 3) := by decide +kernel
theorem dX8_toLandlady_20 : decode cX8_toLandlady 20 = .ok (.iconst 2, 1) := by decide +kernel
theorem dX8_toLandlady_21 : decode cX8_toLandlady 21 = .ok (.iload_n 3, 1) := by decide +kernel
theorem dX8_toLandlady_22 : decode cX8_toLandlady 22 = .ok (.iadd, 1) := by decide +kernel
theorem dX8_toLandlady_23 : decode cX8_toLandlady 23 = .ok (.iaload, 1) := by decide +kernel
theorem dX8_toLandlady_24 : decode cX8_toLandlady 24 = .ok (.isub, 1) := by decide +kernel
theorem dX8_toLandlady_25 : decode cX8_toLandlady 25 = .ok (.invokestatic 77, 3) := by decide +kernel
theorem dX8_toLandlady_28 : decode cX8_toLandlady 28 = .ok (.iadd, 1) := by decide +kernel
theorem dX8_toLandlady_29 : decode cX8_toLandlady 29 = .ok (.istore_n 2, 1) := by decide +kernel
theorem dX8_toLandlady_30 : decode cX8_toLandlady 30 = .ok (.iinc 3 1, 3) := by decide +kernel
theorem dX8_toLandlady_33 : decode cX8_toLandlady 33 = .ok (.goto (-29), 3) := by decide +kernel
theorem dX8_toLandlady_36 : decode cX8_toLandlady 36 = .ok (.iload_n 2, 1) := by decide +kernel
theorem dX8_toLandlady_37 : decode cX8_toLandlady 37 = .ok (.ireturn, 1) := by decide +kernel
theorem dX8_rhymesHer_0 : decode cX8_rhymesHer 0 = .ok (.iconst 0, 1) := by decide +kernel
theorem dX8_rhymesHer_1 : decode cX8_rhymesHer 1 = .ok (.istore_n 2, 1) := by decide +kernel
theorem dX8_rhymesHer_2 : decode cX8_rhymesHer 2 = .ok (.iconst 0, 1) := by decide +kernel
theorem dX8_rhymesHer_3 : decode cX8_rhymesHer 3 = .ok (.istore_n 3, 1) := by decide +kernel
theorem dX8_rhymesHer_4 : decode cX8_rhymesHer 4 = .ok (.iload_n 3, 1) := by decide +kernel
theorem dX8_rhymesHer_5 : decode cX8_rhymesHer 5 = .ok (.iconst 5, 1) := by decide +kernel
theorem dX8_rhymesHer_6 : decode cX8_rhymesHer 6 = .ok (.if_icmp .ge 34, 3) := by decide +kernel
theorem dX8_rhymesHer_9 : decode cX8_rhymesHer 9 = .ok (.iload_n 2, 1) := by decide +kernel
theorem dX8_rhymesHer_10 : decode cX8_rhymesHer 10 = .ok (.aload_n 0, 1) := by decide +kernel
theorem dX8_rhymesHer_11 : decode cX8_rhymesHer 11 = .ok (.iload_n 1, 1) := by decide +kernel
theorem dX8_rhymesHer_12 : decode cX8_rhymesHer 12 = .ok (.iload_n 3, 1) := by decide +kernel
theorem dX8_rhymesHer_13 : decode cX8_rhymesHer 13 = .ok (.invokevirtual 73, 3) := by decide +kernel
theorem dX8_rhymesHer_16 : decode cX8_rhymesHer 16 = .ok (.aload_n 0, 1) := by decide +kernel
theorem dX8_rhymesHer_17 : decode cX8_rhymesHer 17 = .ok (.getfield 19, 3) := by decide +kernel
theorem dX8_rhymesHer_20 : decode cX8_rhymesHer 20 = .ok (.iconst 2, 1) := by decide +kernel
theorem dX8_rhymesHer_21 : decode cX8_rhymesHer 21 = .ok (.iload_n 3, 1) := by decide +kernel
theorem dX8_rhymesHer_22 : decode cX8_rhymesHer 22 = .ok (.iadd, 1) := by decide +kernel
theorem dX8_rhymesHer_23 : decode cX8_rhymesHer 23 = .ok (.iaload, 1) := by decide +kernel
theorem dX8_rhymesHer_24 : decode cX8_rhymesHer 24 = .ok (.if_icmp .ne 7, 3) := by decide +kernel
theorem dX8_rhymesHer_27 : decode cX8_rhymesHer 27 = .ok (.iconst 0, 1) := by decide +kernel
theorem dX8_rhymesHer_28 : decode cX8_rhymesHer 28 = .ok (.goto 4, 3) := by decide +kernel
theorem dX8_rhymesHer_31 : decode cX8_rhymesHer 31 = .ok (.iconst 1, 1) := by decide +kernel
theorem dX8_rhymesHer_32 : decode cX8_rhymesHer 32 = .ok (.iadd, 1) := by decide +kernel
theorem dX8_rhymesHer_33 : decode cX8_rhymesHer 33 = .ok (.istore_n 2, 1) := by decide +kernel
theorem dX8_rhymesHer_34 : decode cX8_rhymesHer 34 = .ok (.iinc 3 1, 3) := by decide +kernel
theorem dX8_rhymesHer_37 : decode cX8_rhymesHer 37 = .ok (.goto (-33), 3) := by decide +kernel
theorem dX8_rhymesHer_40 : decode cX8_rhymesHer 40 = .ok (.iload_n 2, 1) := by decide +kernel
theorem dX8_rhymesHer_41 : decode cX8_rhymesHer 41 = .ok (.iconst 1, 1) := by decide +kernel
theorem dX8_rhymesHer_42 : decode cX8_rhymesHer 42 = .ok (.if_icmp .gt 7, 3) := by decide +kernel
theorem dX8_rhymesHer_45 : decode cX8_rhymesHer 45 = .ok (.iconst 1, 1) := by decide +kernel
theorem dX8_rhymesHer_46 : decode cX8_rhymesHer 46 = .ok (.goto 4, 3) := by decide +kernel
theorem dX8_rhymesHer_49 : decode cX8_rhymesHer 49 = .ok (.iconst 0, 1) := by decide +kernel
theorem dX8_rhymesHer_50 : decode cX8_rhymesHer 50 = .ok (.ireturn, 1) := by decide +kernel
theorem dX8_between_0 : decode cX8_between 0 = .ok (.iconst 0, 1) := by decide +kernel
theorem dX8_between_1 : decode cX8_between 1 = .ok (.istore_n 3, 1) := by decide +kernel
theorem dX8_between_2 : decode cX8_between 2 = .ok (.iconst 0, 1) := by decide +kernel
theorem dX8_between_3 : decode cX8_between 3 = .ok (.istore 4, 2) := by decide +kernel
theorem dX8_between_5 : decode cX8_between 5 = .ok (.iload 4, 2) := by decide +kernel
theorem dX8_between_7 : decode cX8_between 7 = .ok (.iconst 5, 1) := by decide +kernel
theorem dX8_between_8 : decode cX8_between 8 = .ok (.if_icmp .ge 30, 3) := by decide +kernel
theorem dX8_between_11 : decode cX8_between 11 = .ok (.iload_n 3, 1) := by decide +kernel
theorem dX8_between_12 : decode cX8_between 12 = .ok (.aload_n 0, 1) := by decide +kernel
theorem dX8_between_13 : decode cX8_between 13 = .ok (.iload_n 1, 1) := by decide +kernel
theorem dX8_between_14 : decode cX8_between 14 = .ok (.iload 4, 2) := by decide +kernel
theorem dX8_between_16 : decode cX8_between 16 = .ok (.invokevirtual 73, 3) := by decide +kernel
theorem dX8_between_19 : decode cX8_between 19 = .ok (.aload_n 0, 1) := by decide +kernel
theorem dX8_between_20 : decode cX8_between 20 = .ok (.iload_n 2, 1) := by decide +kernel
theorem dX8_between_21 : decode cX8_between 21 = .ok (.iload 4, 2) := by decide +kernel
theorem dX8_between_23 : decode cX8_between 23 = .ok (.invokevirtual 73, 3) := by decide +kernel
theorem dX8_between_26 : decode cX8_between 26 = .ok (.isub, 1) := by decide +kernel
theorem dX8_between_27 : decode cX8_between 27 = .ok (.invokestatic 77, 3) := by decide +kernel
theorem dX8_between_30 : decode cX8_between 30 = .ok (.iadd, 1) := by decide +kernel
theorem dX8_between_31 : decode cX8_between 31 = .ok (.istore_n 3, 1) := by decide +kernel
theorem dX8_between_32 : decode cX8_between 32 = .ok (.iinc 4 1, 3) := by decide +kernel
theorem dX8_between_35 : decode cX8_between 35 = .ok (.goto (-30), 3) := by decide +kernel
theorem dX8_between_38 : decode cX8_between 38 = .ok (.iload_n 3, 1) := by decide +kernel
theorem dX8_between_39 : decode cX8_between 39 = .ok (.ireturn, 1) := by decide +kernel
theorem dX8_rhyme_0 : decode cX8_rhyme 0 = .ok (.iconst 0, 1) := by decide +kernel
theorem dX8_rhyme_1 : decode cX8_rhyme 1 = .ok (.istore_n 3, 1) := by decide +kernel
theorem dX8_rhyme_2 : decode cX8_rhyme 2 = .ok (.iconst 0, 1) := by decide +kernel
theorem dX8_rhyme_3 : decode cX8_rhyme 3 = .ok (.istore 4, 2) := by decide +kernel
theorem dX8_rhyme_5 : decode cX8_rhyme 5 = .ok (.iload 4, 2) := by decide +kernel
theorem dX8_rhyme_7 : decode cX8_rhyme 7 = .ok (.iconst 5, 1) := by decide +kernel
theorem dX8_rhyme_8 : decode cX8_rhyme 8 = .ok (.if_icmp .ge 34, 3) := by decide +kernel
theorem dX8_rhyme_11 : decode cX8_rhyme 11 = .ok (.iload_n 3, 1) := by decide +kernel
theorem dX8_rhyme_12 : decode cX8_rhyme 12 = .ok (.aload_n 0, 1) := by decide +kernel
theorem dX8_rhyme_13 : decode cX8_rhyme 13 = .ok (.iload_n 1, 1) := by decide +kernel
theorem dX8_rhyme_14 : decode cX8_rhyme 14 = .ok (.iload 4, 2) := by decide +kernel
theorem dX8_rhyme_16 : decode cX8_rhyme 16 = .ok (.invokevirtual 73, 3) := by decide +kernel
theorem dX8_rhyme_19 : decode cX8_rhyme 19 = .ok (.aload_n 0, 1) := by decide +kernel
theorem dX8_rhyme_20 : decode cX8_rhyme 20 = .ok (.iload_n 2, 1) := by decide +kernel
theorem dX8_rhyme_21 : decode cX8_rhyme 21 = .ok (.iload 4, 2) := by decide +kernel
theorem dX8_rhyme_23 : decode cX8_rhyme 23 = .ok (.invokevirtual 73, 3) := by decide +kernel
theorem dX8_rhyme_26 : decode cX8_rhyme 26 = .ok (.if_icmp .ne 7, 3) := by decide +kernel
theorem dX8_rhyme_29 : decode cX8_rhyme 29 = .ok (.iconst 0, 1) := by decide +kernel
theorem dX8_rhyme_30 : decode cX8_rhyme 30 = .ok (.goto 4, 3) := by decide +kernel
theorem dX8_rhyme_33 : decode cX8_rhyme 33 = .ok (.iconst 1, 1) := by decide +kernel
theorem dX8_rhyme_34 : decode cX8_rhyme 34 = .ok (.iadd, 1) := by decide +kernel
theorem dX8_rhyme_35 : decode cX8_rhyme 35 = .ok (.istore_n 3, 1) := by decide +kernel
theorem dX8_rhyme_36 : decode cX8_rhyme 36 = .ok (.iinc 4 1, 3) := by decide +kernel
theorem dX8_rhyme_39 : decode cX8_rhyme 39 = .ok (.goto (-34), 3) := by decide +kernel
theorem dX8_rhyme_42 : decode cX8_rhyme 42 = .ok (.iload_n 3, 1) := by decide +kernel
theorem dX8_rhyme_43 : decode cX8_rhyme 43 = .ok (.iconst 1, 1) := by decide +kernel
theorem dX8_rhyme_44 : decode cX8_rhyme 44 = .ok (.if_icmp .gt 7, 3) := by decide +kernel
theorem dX8_rhyme_47 : decode cX8_rhyme 47 = .ok (.iconst 1, 1) := by decide +kernel
theorem dX8_rhyme_48 : decode cX8_rhyme 48 = .ok (.goto 4, 3) := by decide +kernel
theorem dX8_rhyme_51 : decode cX8_rhyme 51 = .ok (.iconst 0, 1) := by decide +kernel
theorem dX8_rhyme_52 : decode cX8_rhyme 52 = .ok (.ireturn, 1) := by decide +kernel
theorem dX8_lessonFor_0 : decode cX8_lessonFor 0 = .ok (.iconst (-1), 1) := by decide +kernel
theorem dX8_lessonFor_1 : decode cX8_lessonFor 1 = .ok (.istore_n 2, 1) := by decide +kernel
theorem dX8_lessonFor_2 : decode cX8_lessonFor 2 = .ok (.iconst 0, 1) := by decide +kernel
theorem dX8_lessonFor_3 : decode cX8_lessonFor 3 = .ok (.istore_n 3, 1) := by decide +kernel
theorem dX8_lessonFor_4 : decode cX8_lessonFor 4 = .ok (.iconst 0, 1) := by decide +kernel
theorem dX8_lessonFor_5 : decode cX8_lessonFor 5 = .ok (.istore 4, 2) := by decide +kernel
theorem dX8_lessonFor_7 : decode cX8_lessonFor 7 = .ok (.iload 4, 2) := by decide +kernel
theorem dX8_lessonFor_9 : decode cX8_lessonFor 9 = .ok (.iconst 5, 1) := by decide +kernel
theorem dX8_lessonFor_10 : decode cX8_lessonFor 10 = .ok (.if_icmp .ge 57, 3) := by decide +kernel
theorem dX8_lessonFor_13 : decode cX8_lessonFor 13 = .ok (.aload_n 0, 1) := by decide +kernel
theorem dX8_lessonFor_14 : decode cX8_lessonFor 14 = .ok (.iload_n 1, 1) := by decide +kernel
theorem dX8_lessonFor_15 : decode cX8_lessonFor 15 = .ok (.iload 4, 2) := by decide +kernel
theorem dX8_lessonFor_17 : decode cX8_lessonFor 17 = .ok (.invokevirtual 73, 3) := by decide +kernel
theorem dX8_lessonFor_20 : decode cX8_lessonFor 20 = .ok (.aload_n 0, 1) := by decide +kernel
theorem dX8_lessonFor_21 : decode cX8_lessonFor 21 = .ok (.getfield 19, 3) := by decide +kernel
theorem dX8_lessonFor_24 : decode cX8_lessonFor 24 = .ok (.iconst 2, 1) := by decide +kernel
theorem dX8_lessonFor_25 : decode cX8_lessonFor 25 = .ok (.iload 4, 2) := by decide +kernel
theorem dX8_lessonFor_27 : decode cX8_lessonFor 27 = .ok (.iadd, 1) := by decide +kernel
theorem dX8_lessonFor_28 : decode cX8_lessonFor 28 = .ok (.iaload, 1) := by decide +kernel
theorem dX8_lessonFor_29 : decode cX8_lessonFor 29 = .ok (.isub, 1) := by decide +kernel
theorem dX8_lessonFor_30 : decode cX8_lessonFor 30 = .ok (.invokestatic 77, 3) := by decide +kernel
theorem dX8_lessonFor_33 : decode cX8_lessonFor 33 = .ok (.istore 5, 2) := by decide +kernel
theorem dX8_lessonFor_35 : decode cX8_lessonFor 35 = .ok (.iload 5, 2) := by decide +kernel
theorem dX8_lessonFor_37 : decode cX8_lessonFor 37 = .ok (.iload_n 3, 1) := by decide +kernel
theorem dX8_lessonFor_38 : decode cX8_lessonFor 38 = .ok (.if_icmp .le 8, 3) := by decide +kernel
theorem dX8_lessonFor_41 : decode cX8_lessonFor 41 = .ok (.iload 4, 2) := by decide +kernel
theorem dX8_lessonFor_43 : decode cX8_lessonFor 43 = .ok (.goto 4, 3) := by decide +kernel
theorem dX8_lessonFor_46 : decode cX8_lessonFor 46 = .ok (.iload_n 2, 1) := by decide +kernel
theorem dX8_lessonFor_47 : decode cX8_lessonFor 47 = .ok (.istore_n 2, 1) := by decide +kernel
theorem dX8_lessonFor_48 : decode cX8_lessonFor 48 = .ok (.iload 5, 2) := by decide +kernel
theorem dX8_lessonFor_50 : decode cX8_lessonFor 50 = .ok (.iload_n 3, 1) := by decide +kernel
theorem dX8_lessonFor_51 : decode cX8_lessonFor 51 = .ok (.if_icmp .le 8, 3) := by decide +kernel
theorem dX8_lessonFor_54 : decode cX8_lessonFor 54 = .ok (.iload 5, 2) := by decide +kernel
theorem dX8_lessonFor_56 : decode cX8_lessonFor 56 = .ok (.goto 4, 3) := by decide +kernel
theorem dX8_lessonFor_59 : decode cX8_lessonFor 59 = .ok (.iload_n 3, 1) := by decide +kernel
theorem dX8_lessonFor_60 : decode cX8_lessonFor 60 = .ok (.istore_n 3, 1) := by decide +kernel
theorem dX8_lessonFor_61 : decode cX8_lessonFor 61 = .ok (.iinc 4 1, 3) := by decide +kernel
theorem dX8_lessonFor_64 : decode cX8_lessonFor 64 = .ok (.goto (-57), 3) := by decide +kernel
theorem dX8_lessonFor_67 : decode cX8_lessonFor 67 = .ok (.iload_n 2, 1) := by decide +kernel
theorem dX8_lessonFor_68 : decode cX8_lessonFor 68 = .ok (.ireturn, 1) := by decide +kernel
theorem dX8_averagesNow_0 : decode cX8_averagesNow 0 = .ok (.iconst 0, 1) := by decide +kernel
theorem dX8_averagesNow_1 : decode cX8_averagesNow 1 = .ok (.istore_n 1, 1) := by decide +kernel
theorem dX8_averagesNow_2 : decode cX8_averagesNow 2 = .ok (.iload_n 1, 1) := by decide +kernel
theorem dX8_averagesNow_3 : decode cX8_averagesNow 3 = .ok (.iconst 5, 1) := by decide +kernel
theorem dX8_averagesNow_4 : decode cX8_averagesNow 4 = .ok (.if_icmp .ge 50, 3) := by decide +kernel
theorem dX8_averagesNow_7 : decode cX8_averagesNow 7 = .ok (.aload_n 0, 1) := by decide +kernel
theorem dX8_averagesNow_8 : decode cX8_averagesNow 8 = .ok (.getfield 34, 3) := by decide +kernel
theorem dX8_averagesNow_11 : decode cX8_averagesNow 11 = .ok (.iload_n 1, 1) := by decide +kernel
theorem dX8_averagesNow_12 : decode cX8_averagesNow 12 = .ok (.aload_n 0, 1) := by decide +kernel
theorem dX8_averagesNow_13 : decode cX8_averagesNow 13 = .ok (.iload_n 1, 1) := by decide +kernel
theorem dX8_averagesNow_14 : decode cX8_averagesNow 14 = .ok (.iconst (-1), 1) := by decide +kernel
theorem dX8_averagesNow_15 : decode cX8_averagesNow 15 = .ok (.invokevirtual 80, 3) := by decide +kernel
theorem dX8_averagesNow_18 : decode cX8_averagesNow 18 = .ok (.iastore, 1) := by decide +kernel
theorem dX8_averagesNow_19 : decode cX8_averagesNow 19 = .ok (.iconst 0, 1) := by decide +kernel
theorem dX8_averagesNow_20 : decode cX8_averagesNow 20 = .ok (.istore_n 2, 1) := by decide +kernel
theorem dX8_averagesNow_21 : decode cX8_averagesNow 21 = .ok (.iload_n 2, 1) := by decide +kernel
theorem dX8_averagesNow_22 : decode cX8_averagesNow 22 = .ok (.iconst 5, 1) := by decide +kernel
theorem dX8_averagesNow_23 : decode cX8_averagesNow 23 = .ok (.if_icmp .ge 25, 3) := by decide +kernel
theorem dX8_averagesNow_26 : decode cX8_averagesNow 26 = .ok (.aload_n 0, 1) := by decide +kernel
theorem dX8_averagesNow_27 : decode cX8_averagesNow 27 = .ok (.getfield 31, 3) := by decide +kernel
theorem dX8_averagesNow_30 : decode cX8_averagesNow 30 = .ok (.iconst 5, 1) := by decide +kernel
theorem dX8_averagesNow_31 : decode cX8_averagesNow 31 = .ok (.iload_n 1, 1) := by decide +kernel
theorem dX8_averagesNow_32 : decode cX8_averagesNow 32 = .ok (.imul, 1) := by decide +kernel
theorem dX8_averagesNow_33 : decode cX8_averagesNow 33 = .ok (.iload_n 2, 1) := by decide +kernel
theorem dX8_averagesNow_34 : decode cX8_averagesNow 34 = .ok (.iadd, 1) := by decide +kernel
theorem dX8_averagesNow_35 : decode cX8_averagesNow 35 = .ok (.aload_n 0, 1) := by decide +kernel
theorem dX8_averagesNow_36 : decode cX8_averagesNow 36 = .ok (.iload_n 1, 1) := by decide +kernel
theorem dX8_averagesNow_37 : decode cX8_averagesNow 37 = .ok (.iload_n 2, 1) := by decide +kernel
theorem dX8_averagesNow_38 : decode cX8_averagesNow 38 = .ok (.invokevirtual 83, 3) := by decide +kernel
theorem dX8_averagesNow_41 : decode cX8_averagesNow 41 = .ok (.iastore, 1) := by decide +kernel
theorem dX8_averagesNow_42 : decode cX8_averagesNow 42 = .ok (.iinc 2 1, 3) := by decide +kernel
theorem dX8_averagesNow_45 : decode cX8_averagesNow 45 = .ok (.goto (-24), 3) := by decide +kernel
theorem dX8_averagesNow_48 : decode cX8_averagesNow 48 = .ok (.iinc 1 1, 3) := by decide +kernel
theorem dX8_averagesNow_51 : decode cX8_averagesNow 51 = .ok (.goto (-49), 3) := by decide +kernel
theorem dX8_averagesNow_54 : decode cX8_averagesNow 54 = .ok (.return_, 1) := by decide +kernel
theorem dX8_slipFor_0 : decode cX8_slipFor 0 = .ok (.aload_n 0, 1) := by decide +kernel
theorem dX8_slipFor_1 : decode cX8_slipFor 1 = .ok (.getfield 19, 3) := by decide +kernel
theorem dX8_slipFor_4 : decode cX8_slipFor 4 = .ok (.iload_n 1, 1) := by decide +kernel
theorem dX8_slipFor_5 : decode cX8_slipFor 5 = .ok (.invokestatic 56, 3) := by decide +kernel
theorem dX8_slipFor_8 : decode cX8_slipFor 8 = .ok (.iconst 0, 1) := by decide +kernel
theorem dX8_slipFor_9 : decode cX8_slipFor 9 = .ok (.iadd, 1) := by decide +kernel
theorem dX8_slipFor_10 : decode cX8_slipFor 10 = .ok (.iaload, 1) := by decide +kernel
theorem dX8_slipFor_11 : decode cX8_slipFor 11 = .ok (.istore_n 2, 1) := by decide +kernel
theorem dX8_slipFor_12 : decode cX8_slipFor 12 = .ok (.aload_n 0, 1) := by decide +kernel
theorem dX8_slipFor_13 : decode cX8_slipFor 13 = .ok (.getfield 34, 3) := by decide +kernel
theorem dX8_slipFor_16 : decode cX8_slipFor 16 = .ok (.iload_n 2, 1) := by decide +kernel
theorem dX8_slipFor_17 : decode cX8_slipFor 17 = .ok (.iaload, 1) := by decide +kernel
theorem dX8_slipFor_18 : decode cX8_slipFor 18 = .ok (.iconst 2, 1) := by decide +kernel
theorem dX8_slipFor_19 : decode cX8_slipFor 19 = .ok (.if_icmp .ge 5, 3) := by decide +kernel
theorem dX8_slipFor_22 : decode cX8_slipFor 22 = .ok (.iconst (-1), 1) := by decide +kernel
theorem dX8_slipFor_23 : decode cX8_slipFor 23 = .ok (.ireturn, 1) := by decide +kernel
theorem dX8_slipFor_24 : decode cX8_slipFor 24 = .ok (.iconst (-1), 1) := by decide +kernel
theorem dX8_slipFor_25 : decode cX8_slipFor 25 = .ok (.istore_n 3, 1) := by decide +kernel
theorem dX8_slipFor_26 : decode cX8_slipFor 26 = .ok (.iconst 0, 1) := by decide +kernel
theorem dX8_slipFor_27 : decode cX8_slipFor 27 = .ok (.istore 4, 2) := by decide +kernel
theorem dX8_slipFor_29 : decode cX8_slipFor 29 = .ok (.iconst 0, 1) := by decide +kernel
theorem dX8_slipFor_30 : decode cX8_slipFor 30 = .ok (.istore 5, 2) := by decide +kernel
theorem dX8_slipFor_32 : decode cX8_slipFor 32 = .ok (.iload 5, 2) := by decide +kernel
theorem dX8_slipFor_34 : decode cX8_slipFor 34 = .ok (.iconst 5, 1) := by decide +kernel
theorem dX8_slipFor_35 : decode cX8_slipFor 35 = .ok (.if_icmp .ge 63, 3) := by decide +kernel
theorem dX8_slipFor_38 : decode cX8_slipFor 38 = .ok (.aload_n 0, 1) := by decide +kernel
theorem dX8_slipFor_39 : decode cX8_slipFor 39 = .ok (.iload_n 1, 1) := by decide +kernel
theorem dX8_slipFor_40 : decode cX8_slipFor 40 = .ok (.iload 5, 2) := by decide +kernel
theorem dX8_slipFor_42 : decode cX8_slipFor 42 = .ok (.invokevirtual 73, 3) := by decide +kernel
theorem dX8_slipFor_45 : decode cX8_slipFor 45 = .ok (.aload_n 0, 1) := by decide +kernel
theorem dX8_slipFor_46 : decode cX8_slipFor 46 = .ok (.getfield 31, 3) := by decide +kernel
theorem dX8_slipFor_49 : decode cX8_slipFor 49 = .ok (.iconst 5, 1) := by decide +kernel
theorem dX8_slipFor_50 : decode cX8_slipFor 50 = .ok (.iload_n 2, 1) := by decide +kernel
theorem dX8_slipFor_51 : decode cX8_slipFor 51 = .ok (.imul, 1) := by decide +kernel
theorem dX8_slipFor_52 : decode cX8_slipFor 52 = .ok (.iload 5, 2) := by decide +kernel
theorem dX8_slipFor_54 : decode cX8_slipFor 54 = .ok (.iadd, 1) := by decide +kernel
theorem dX8_slipFor_55 : decode cX8_slipFor 55 = .ok (.iaload, 1) := by decide +kernel
theorem dX8_slipFor_56 : decode cX8_slipFor 56 = .ok (.isub, 1) := by decide +kernel
theorem dX8_slipFor_57 : decode cX8_slipFor 57 = .ok (.invokestatic 77, 3) := by decide +kernel
theorem dX8_slipFor_60 : decode cX8_slipFor 60 = .ok (.istore 6, 2) := by decide +kernel
theorem dX8_slipFor_62 : decode cX8_slipFor 62 = .ok (.iload 6, 2) := by decide +kernel
theorem dX8_slipFor_64 : decode cX8_slipFor 64 = .ok (.iload 4, 2) := by decide +kernel
theorem dX8_slipFor_66 : decode cX8_slipFor 66 = .ok (.if_icmp .le 8, 3) := by decide +kernel
theorem dX8_slipFor_69 : decode cX8_slipFor 69 = .ok (.iload 5, 2) := by decide +kernel
theorem dX8_slipFor_71 : decode cX8_slipFor 71 = .ok (.goto 4, 3) := by decide +kernel
theorem dX8_slipFor_74 : decode cX8_slipFor 74 = .ok (.iload_n 3, 1) := by decide +kernel
theorem dX8_slipFor_75 : decode cX8_slipFor 75 = .ok (.istore_n 3, 1) := by decide +kernel
theorem dX8_slipFor_76 : decode cX8_slipFor 76 = .ok (.iload 6, 2) := by decide +kernel
theorem dX8_slipFor_78 : decode cX8_slipFor 78 = .ok (.iload 4, 2) := by decide +kernel
theorem dX8_slipFor_80 : decode cX8_slipFor 80 = .ok (.if_icmp .le 8, 3) := by decide +kernel
theorem dX8_slipFor_83 : decode cX8_slipFor 83 = .ok (.iload 6, 2) := by decide +kernel
theorem dX8_slipFor_85 : decode cX8_slipFor 85 = .ok (.goto 5, 3) := by decide +kernel
theorem dX8_slipFor_88 : decode cX8_slipFor 88 = .ok (.iload 4, 2) := by decide +kernel
theorem dX8_slipFor_90 : decode cX8_slipFor 90 = .ok (.istore 4, 2) := by decide +kernel
theorem dX8_slipFor_92 : decode cX8_slipFor 92 = .ok (.iinc 5 1, 3) := by decide +kernel
theorem dX8_slipFor_95 : decode cX8_slipFor 95 = .ok (.goto (-63), 3) := by decide +kernel
theorem dX8_slipFor_98 : decode cX8_slipFor 98 = .ok (.iload_n 3, 1) := by decide +kernel
theorem dX8_slipFor_99 : decode cX8_slipFor 99 = .ok (.ireturn, 1) := by decide +kernel
theorem dX8_hasToGo_0 : decode cX8_hasToGo 0 = .ok (.aload_n 0, 1) := by decide +kernel
theorem dX8_hasToGo_1 : decode cX8_hasToGo 1 = .ok (.getfield 19, 3) := by decide +kernel
theorem dX8_hasToGo_4 : decode cX8_hasToGo 4 = .ok (.iload_n 1, 1) := by decide +kernel
theorem dX8_hasToGo_5 : decode cX8_hasToGo 5 = .ok (.invokestatic 56, 3) := by decide +kernel
theorem dX8_hasToGo_8 : decode cX8_hasToGo 8 = .ok (.iconst 1, 1) := by decide +kernel
theorem dX8_hasToGo_9 : decode cX8_hasToGo 9 = .ok (.iadd, 1) := by decide +kernel
theorem dX8_hasToGo_10 : decode cX8_hasToGo 10 = .ok (.iaload, 1) := by decide +kernel
theorem dX8_hasToGo_11 : decode cX8_hasToGo 11 = .ok (.ifCond .ge 29, 3) := by decide +kernel
theorem dX8_hasToGo_14 : decode cX8_hasToGo 14 = .ok (.aload_n 0, 1) := by decide +kernel
theorem dX8_hasToGo_15 : decode cX8_hasToGo 15 = .ok (.iload_n 1, 1) := by decide +kernel
theorem dX8_hasToGo_16 : decode cX8_hasToGo 16 = .ok (.invokevirtual 86, 3) := by decide +kernel
theorem dX8_hasToGo_19 : decode cX8_hasToGo 19 = .ok (.aload_n 0, 1) := by decide +kernel
theorem dX8_hasToGo_20 : decode cX8_hasToGo 20 = .ok (.getfield 19, 3) := by decide +kernel
theorem dX8_hasToGo_23 : decode cX8_hasToGo 23 = .ok (.iconst 1, 1) := by decide +kernel
theorem dX8_hasToGo_24 : decode cX8_hasToGo 24 = .ok (.iaload, 1) := by decide +kernel
theorem dX8_hasToGo_25 : decode cX8_hasToGo 25 = .ok (.if_icmp .le 15, 3) := by decide +kernel
theorem dX8_hasToGo_28 : decode cX8_hasToGo 28 = .ok (.aload_n 0, 1) := by decide +kernel
theorem dX8_hasToGo_29 : decode cX8_hasToGo 29 = .ok (.iload_n 1, 1) := by decide +kernel
theorem dX8_hasToGo_30 : decode cX8_hasToGo 30 = .ok (.invokevirtual 89, 3) := by decide +kernel
theorem dX8_hasToGo_33 : decode cX8_hasToGo 33 = .ok (.ifCond .ne 7, 3) := by decide +kernel
theorem dX8_hasToGo_36 : decode cX8_hasToGo 36 = .ok (.iconst 1, 1) := by decide +kernel
theorem dX8_hasToGo_37 : decode cX8_hasToGo 37 = .ok (.goto 4, 3) := by decide +kernel
theorem dX8_hasToGo_40 : decode cX8_hasToGo 40 = .ok (.iconst 0, 1) := by decide +kernel
theorem dX8_hasToGo_41 : decode cX8_hasToGo 41 = .ok (.ireturn, 1) := by decide +kernel
theorem dX8_moves_0 : decode cX8_moves 0 = .ok (.iload_n 1, 1) := by decide +kernel
theorem dX8_moves_1 : decode cX8_moves 1 = .ok (.invokestatic 56, 3) := by decide +kernel
theorem dX8_moves_4 : decode cX8_moves 4 = .ok (.iconst 5, 1) := by decide +kernel
theorem dX8_moves_5 : decode cX8_moves 5 = .ok (.iadd, 1) := by decide +kernel
theorem dX8_moves_6 : decode cX8_moves 6 = .ok (.iload_n 2, 1) := by decide +kernel
theorem dX8_moves_7 : decode cX8_moves 7 = .ok (.iadd, 1) := by decide +kernel
theorem dX8_moves_8 : decode cX8_moves 8 = .ok (.istore 4, 2) := by decide +kernel
theorem dX8_moves_10 : decode cX8_moves 10 = .ok (.aload_n 0, 1) := by decide +kernel
theorem dX8_moves_11 : decode cX8_moves 11 = .ok (.getfield 19, 3) := by decide +kernel
theorem dX8_moves_14 : decode cX8_moves 14 = .ok (.iload 4, 2) := by decide +kernel
theorem dX8_moves_16 : decode cX8_moves 16 = .ok (.dup2, 1) := by decide +kernel
theorem dX8_moves_17 : decode cX8_moves 17 = .ok (.iaload, 1) := by decide +kernel
theorem dX8_moves_18 : decode cX8_moves 18 = .ok (.aload_n 0, 1) := by decide +kernel
theorem dX8_moves_19 : decode cX8_moves 19 = .ok (.getfield 19, 3) := by decide +kernel
theorem dX8_moves_22 : decode cX8_moves 22 = .ok (.iload 4, 2) := by decide +kernel
theorem dX8_moves_24 : decode cX8_moves 24 = .ok (.iaload, 1) := by decide +kernel
theorem dX8_moves_25 : decode cX8_moves 25 = .ok (.iload_n 3, 1) := by decide +kernel
theorem dX8_moves_26 : decode cX8_moves 26 = .ok (.if_icmp .ge 7, 3) := by decide +kernel
theorem dX8_moves_29 : decode cX8_moves 29 = .ok (.iconst 1, 1) := by decide +kernel
theorem dX8_moves_30 : decode cX8_moves 30 = .ok (.goto 4, 3) := by decide +kernel
theorem dX8_moves_33 : decode cX8_moves 33 = .ok (.iconst (-1), 1) := by decide +kernel
theorem dX8_moves_34 : decode cX8_moves 34 = .ok (.iadd, 1) := by decide +kernel
theorem dX8_moves_35 : decode cX8_moves 35 = .ok (.iastore, 1) := by decide +kernel
theorem dX8_moves_36 : decode cX8_moves 36 = .ok (.return_, 1) := by decide +kernel
theorem dX8_charges_0 : decode cX8_charges 0 = .ok (.aload_n 0, 1) := by decide +kernel
theorem dX8_charges_1 : decode cX8_charges 1 = .ok (.aload_n 0, 1) := by decide +kernel
theorem dX8_charges_2 : decode cX8_charges 2 = .ok (.getfield 19, 3) := by decide +kernel
theorem dX8_charges_5 : decode cX8_charges 5 = .ok (.iload_n 1, 1) := by decide +kernel
theorem dX8_charges_6 : decode cX8_charges 6 = .ok (.invokestatic 56, 3) := by decide +kernel
theorem dX8_charges_9 : decode cX8_charges 9 = .ok (.iconst 0, 1) := by decide +kernel
theorem dX8_charges_10 : decode cX8_charges 10 = .ok (.iadd, 1) := by decide +kernel
theorem dX8_charges_11 : decode cX8_charges 11 = .ok (.iaload, 1) := by decide +kernel
theorem dX8_charges_12 : decode cX8_charges 12 = .ok (.invokevirtual 93, 3) := by decide +kernel
theorem dX8_charges_15 : decode cX8_charges 15 = .ok (.istore_n 2, 1) := by decide +kernel
theorem dX8_charges_16 : decode cX8_charges 16 = .ok (.aload_n 0, 1) := by decide +kernel
theorem dX8_charges_17 : decode cX8_charges 17 = .ok (.getfield 19, 3) := by decide +kernel
theorem dX8_charges_20 : decode cX8_charges 20 = .ok (.iload_n 1, 1) := by decide +kernel
theorem dX8_charges_21 : decode cX8_charges 21 = .ok (.invokestatic 56, 3) := by decide +kernel
theorem dX8_charges_24 : decode cX8_charges 24 = .ok (.iconst 1, 1) := by decide +kernel
theorem dX8_charges_25 : decode cX8_charges 25 = .ok (.iadd, 1) := by decide +kernel
theorem dX8_charges_26 : decode cX8_charges 26 = .ok (.dup2, 1) := by decide +kernel
theorem dX8_charges_27 : decode cX8_charges 27 = .ok (.iaload, 1) := by decide +kernel
theorem dX8_charges_28 : decode cX8_charges 28 = .ok (.iload_n 2, 1) := by decide +kernel
theorem dX8_charges_29 : decode cX8_charges 29 = .ok (.isub, 1) := by decide +kernel
theorem dX8_charges_30 : decode cX8_charges 30 = .ok (.iastore, 1) := by decide +kernel
theorem dX8_charges_31 : decode cX8_charges 31 = .ok (.aload_n 0, 1) := by decide +kernel
theorem dX8_charges_32 : decode cX8_charges 32 = .ok (.getfield 19, 3) := by decide +kernel
theorem dX8_charges_35 : decode cX8_charges 35 = .ok (.bipush 11, 2) := by decide +kernel
theorem dX8_charges_37 : decode cX8_charges 37 = .ok (.dup2, 1) := by decide +kernel
theorem dX8_charges_38 : decode cX8_charges 38 = .ok (.iaload, 1) := by decide +kernel
theorem dX8_charges_39 : decode cX8_charges 39 = .ok (.iload_n 2, 1) := by decide +kernel
theorem dX8_charges_40 : decode cX8_charges 40 = .ok (.iadd, 1) := by decide +kernel
theorem dX8_charges_41 : decode cX8_charges 41 = .ok (.iastore, 1) := by decide +kernel
theorem dX8_charges_42 : decode cX8_charges 42 = .ok (.return_, 1) := by decide +kernel
theorem dX8_teaches_0 : decode cX8_teaches 0 = .ok (.aload_n 0, 1) := by decide +kernel
theorem dX8_teaches_1 : decode cX8_teaches 1 = .ok (.iload_n 1, 1) := by decide +kernel
theorem dX8_teaches_2 : decode cX8_teaches 2 = .ok (.invokevirtual 96, 3) := by decide +kernel
theorem dX8_teaches_5 : decode cX8_teaches 5 = .ok (.istore_n 2, 1) := by decide +kernel
theorem dX8_teaches_6 : decode cX8_teaches 6 = .ok (.aload_n 0, 1) := by decide +kernel
theorem dX8_teaches_7 : decode cX8_teaches 7 = .ok (.getfield 19, 3) := by decide +kernel
theorem dX8_teaches_10 : decode cX8_teaches 10 = .ok (.iload_n 1, 1) := by decide +kernel
theorem dX8_teaches_11 : decode cX8_teaches 11 = .ok (.invokestatic 56, 3) := by decide +kernel
theorem dX8_teaches_14 : decode cX8_teaches 14 = .ok (.iconst 1, 1) := by decide +kernel
theorem dX8_teaches_15 : decode cX8_teaches 15 = .ok (.iadd, 1) := by decide +kernel
theorem dX8_teaches_16 : decode cX8_teaches 16 = .ok (.iaload, 1) := by decide +kernel
theorem dX8_teaches_17 : decode cX8_teaches 17 = .ok (.ifCond .lt 37, 3) := by decide +kernel
theorem dX8_teaches_20 : decode cX8_teaches 20 = .ok (.iload_n 2, 1) := by decide +kernel
theorem dX8_teaches_21 : decode cX8_teaches 21 = .ok (.iconst (-1), 1) := by decide +kernel
theorem dX8_teaches_22 : decode cX8_teaches 22 = .ok (.if_icmp .eq 32, 3) := by decide +kernel
theorem dX8_teaches_25 : decode cX8_teaches 25 = .ok (.aload_n 0, 1) := by decide +kernel
theorem dX8_teaches_26 : decode cX8_teaches 26 = .ok (.iload_n 1, 1) := by decide +kernel
theorem dX8_teaches_27 : decode cX8_teaches 27 = .ok (.iload_n 2, 1) := by decide +kernel
theorem dX8_teaches_28 : decode cX8_teaches 28 = .ok (.aload_n 0, 1) := by decide +kernel
theorem dX8_teaches_29 : decode cX8_teaches 29 = .ok (.getfield 19, 3) := by decide +kernel
theorem dX8_teaches_32 : decode cX8_teaches 32 = .ok (.iconst 2, 1) := by decide +kernel
theorem dX8_teaches_33 : decode cX8_teaches 33 = .ok (.iload_n 2, 1) := by decide +kernel
theorem dX8_teaches_34 : decode cX8_teaches 34 = .ok (.iadd, 1) := by decide +kernel
theorem dX8_teaches_35 : decode cX8_teaches 35 = .ok (.iaload, 1) := by decide +kernel
theorem dX8_teaches_36 : decode cX8_teaches 36 = .ok (.invokevirtual 99, 3) := by decide +kernel
theorem dX8_teaches_39 : decode cX8_teaches 39 = .ok (.aload_n 0, 1) := by decide +kernel
theorem dX8_teaches_40 : decode cX8_teaches 40 = .ok (.getfield 19, 3) := by decide +kernel
theorem dX8_teaches_43 : decode cX8_teaches 43 = .ok (.iload_n 1, 1) := by decide +kernel
theorem dX8_teaches_44 : decode cX8_teaches 44 = .ok (.invokestatic 56, 3) := by decide +kernel
theorem dX8_teaches_47 : decode cX8_teaches 47 = .ok (.iconst 2, 1) := by decide +kernel
theorem dX8_teaches_48 : decode cX8_teaches 48 = .ok (.iadd, 1) := by decide +kernel
theorem dX8_teaches_49 : decode cX8_teaches 49 = .ok (.dup2, 1) := by decide +kernel
theorem dX8_teaches_50 : decode cX8_teaches 50 = .ok (.iaload, 1) := by decide +kernel
theorem dX8_teaches_51 : decode cX8_teaches 51 = .ok (.iconst 1, 1) := by decide +kernel
theorem dX8_teaches_52 : decode cX8_teaches 52 = .ok (.iadd, 1) := by decide +kernel
theorem dX8_teaches_53 : decode cX8_teaches 53 = .ok (.iastore, 1) := by decide +kernel
theorem dX8_teaches_54 : decode cX8_teaches 54 = .ok (.return_, 1) := by decide +kernel
theorem dX8_dines_0 : decode cX8_dines 0 = .ok (.aload_n 0, 1) := by decide +kernel
theorem dX8_dines_1 : decode cX8_dines 1 = .ok (.iload_n 1, 1) := by decide +kernel
theorem dX8_dines_2 : decode cX8_dines 2 = .ok (.invokevirtual 102, 3) := by decide +kernel
theorem dX8_dines_5 : decode cX8_dines 5 = .ok (.istore_n 2, 1) := by decide +kernel
theorem dX8_dines_6 : decode cX8_dines 6 = .ok (.iload_n 2, 1) := by decide +kernel
theorem dX8_dines_7 : decode cX8_dines 7 = .ok (.iconst (-1), 1) := by decide +kernel
theorem dX8_dines_8 : decode cX8_dines 8 = .ok (.if_icmp .eq 44, 3) := by decide +kernel
theorem dX8_dines_11 : decode cX8_dines 11 = .ok (.aload_n 0, 1) := by decide +kernel
theorem dX8_dines_12 : decode cX8_dines 12 = .ok (.iload_n 1, 1) := by decide +kernel
theorem dX8_dines_13 : decode cX8_dines 13 = .ok (.iload_n 2, 1) := by decide +kernel
theorem dX8_dines_14 : decode cX8_dines 14 = .ok (.aload_n 0, 1) := by decide +kernel
theorem dX8_dines_15 : decode cX8_dines 15 = .ok (.getfield 31, 3) := by decide +kernel
theorem dX8_dines_18 : decode cX8_dines 18 = .ok (.iconst 5, 1) := by decide +kernel
theorem dX8_dines_19 : decode cX8_dines 19 = .ok (.aload_n 0, 1) := by decide +kernel
theorem dX8_dines_20 : decode cX8_dines 20 = .ok (.getfield 19, 3) := by decide +kernel
theorem dX8_dines_23 : decode cX8_dines 23 = .ok (.iload_n 1, 1) := by decide +kernel
theorem dX8_dines_24 : decode cX8_dines 24 = .ok (.invokestatic 56, 3) := by decide +kernel
theorem dX8_dines_27 : decode cX8_dines 27 = .ok (.iconst 0, 1) := by decide +kernel
theorem dX8_dines_28 : decode cX8_dines 28 = .ok (.iadd, 1) := by decide +kernel
theorem dX8_dines_29 : decode cX8_dines 29 = .ok (.iaload, 1) := by decide +kernel
theorem dX8_dines_30 : decode cX8_dines 30 = .ok (.imul, 1) := by decide +kernel
theorem dX8_dines_31 : decode cX8_dines 31 = .ok (.iload_n 2, 1) := by decide +kernel
theorem dX8_dines_32 : decode cX8_dines 32 = .ok (.iadd, 1) := by decide +kernel
theorem dX8_dines_33 : decode cX8_dines 33 = .ok (.iaload, 1) := by decide +kernel
theorem dX8_dines_34 : decode cX8_dines 34 = .ok (.invokevirtual 99, 3) := by decide +kernel
theorem dX8_dines_37 : decode cX8_dines 37 = .ok (.aload_n 0, 1) := by decide +kernel
theorem dX8_dines_38 : decode cX8_dines 38 = .ok (.getfield 19, 3) := by decide +kernel
theorem dX8_dines_41 : decode cX8_dines 41 = .ok (.iload_n 1, 1) := by decide +kernel
theorem dX8_dines_42 : decode cX8_dines 42 = .ok (.invokestatic 56, 3) := by decide +kernel
theorem dX8_dines_45 : decode cX8_dines 45 = .ok (.iconst 3, 1) := by decide +kernel
theorem dX8_dines_46 : decode cX8_dines 46 = .ok (.iadd, 1) := by decide +kernel
theorem dX8_dines_47 : decode cX8_dines 47 = .ok (.dup2, 1) := by decide +kernel
theorem dX8_dines_48 : decode cX8_dines 48 = .ok (.iaload, 1) := by decide +kernel
theorem dX8_dines_49 : decode cX8_dines 49 = .ok (.iconst 1, 1) := by decide +kernel
theorem dX8_dines_50 : decode cX8_dines 50 = .ok (.iadd, 1) := by decide +kernel
theorem dX8_dines_51 : decode cX8_dines 51 = .ok (.iastore, 1) := by decide +kernel
theorem dX8_dines_52 : decode cX8_dines 52 = .ok (.return_, 1) := by decide +kernel
theorem dX8_inspects_0 : decode cX8_inspects 0 = .ok (.iconst 0, 1) := by decide +kernel
theorem dX8_inspects_1 : decode cX8_inspects 1 = .ok (.istore_n 1, 1) := by decide +kernel
theorem dX8_inspects_2 : decode cX8_inspects 2 = .ok (.iload_n 1, 1) := by decide +kernel
theorem dX8_inspects_3 : decode cX8_inspects 3 = .ok (.aload_n 0, 1) := by decide +kernel
theorem dX8_inspects_4 : decode cX8_inspects 4 = .ok (.getfield 19, 3) := by decide +kernel
theorem dX8_inspects_7 : decode cX8_inspects 7 = .ok (.bipush 7, 2) := by decide +kernel
theorem dX8_inspects_9 : decode cX8_inspects 9 = .ok (.iaload, 1) := by decide +kernel
theorem dX8_inspects_10 : decode cX8_inspects 10 = .ok (.if_icmp .ge 36, 3) := by decide +kernel
theorem dX8_inspects_13 : decode cX8_inspects 13 = .ok (.aload_n 0, 1) := by decide +kernel
theorem dX8_inspects_14 : decode cX8_inspects 14 = .ok (.iload_n 1, 1) := by decide +kernel
theorem dX8_inspects_15 : decode cX8_inspects 15 = .ok (.invokevirtual 105, 3) := by decide +kernel
theorem dX8_inspects_18 : decode cX8_inspects 18 = .ok (.ifCond .eq 22, 3) := by decide +kernel
theorem dX8_inspects_21 : decode cX8_inspects 21 = .ok (.aload_n 0, 1) := by decide +kernel
theorem dX8_inspects_22 : decode cX8_inspects 22 = .ok (.iload_n 1, 1) := by decide +kernel
theorem dX8_inspects_23 : decode cX8_inspects 23 = .ok (.invokevirtual 108, 3) := by decide +kernel
theorem dX8_inspects_26 : decode cX8_inspects 26 = .ok (.aload_n 0, 1) := by decide +kernel
theorem dX8_inspects_27 : decode cX8_inspects 27 = .ok (.getfield 19, 3) := by decide +kernel
theorem dX8_inspects_30 : decode cX8_inspects 30 = .ok (.bipush 9, 2) := by decide +kernel
theorem dX8_inspects_32 : decode cX8_inspects 32 = .ok (.dup2, 1) := by decide +kernel
theorem dX8_inspects_33 : decode cX8_inspects 33 = .ok (.iaload, 1) := by decide +kernel
theorem dX8_inspects_34 : decode cX8_inspects 34 = .ok (.iconst 1, 1) := by decide +kernel
theorem dX8_inspects_35 : decode cX8_inspects 35 = .ok (.iadd, 1) := by decide +kernel
theorem dX8_inspects_36 : decode cX8_inspects 36 = .ok (.iastore, 1) := by decide +kernel
theorem dX8_inspects_37 : decode cX8_inspects 37 = .ok (.goto (-35), 3) := by decide +kernel
theorem dX8_inspects_40 : decode cX8_inspects 40 = .ok (.iinc 1 1, 3) := by decide +kernel
theorem dX8_inspects_43 : decode cX8_inspects 43 = .ok (.goto (-41), 3) := by decide +kernel
theorem dX8_inspects_46 : decode cX8_inspects 46 = .ok (.return_, 1) := by decide +kernel
theorem dX8_passesDay_0 : decode cX8_passesDay 0 = .ok (.iconst 0, 1) := by decide +kernel
theorem dX8_passesDay_1 : decode cX8_passesDay 1 = .ok (.istore_n 1, 1) := by decide +kernel
theorem dX8_passesDay_2 : decode cX8_passesDay 2 = .ok (.iload_n 1, 1) := by decide +kernel
theorem dX8_passesDay_3 : decode cX8_passesDay 3 = .ok (.aload_n 0, 1) := by decide +kernel
theorem dX8_passesDay_4 : decode cX8_passesDay 4 = .ok (.getfield 19, 3) := by decide +kernel
theorem dX8_passesDay_7 : decode cX8_passesDay 7 = .ok (.bipush 7, 2) := by decide +kernel
theorem dX8_passesDay_9 : decode cX8_passesDay 9 = .ok (.iaload, 1) := by decide +kernel
theorem dX8_passesDay_10 : decode cX8_passesDay 10 = .ok (.if_icmp .ge 14, 3) := by decide +kernel
theorem dX8_passesDay_13 : decode cX8_passesDay 13 = .ok (.aload_n 0, 1) := by decide +kernel
theorem dX8_passesDay_14 : decode cX8_passesDay 14 = .ok (.iload_n 1, 1) := by decide +kernel
theorem dX8_passesDay_15 : decode cX8_passesDay 15 = .ok (.invokevirtual 112, 3) := by decide +kernel
theorem dX8_passesDay_18 : decode cX8_passesDay 18 = .ok (.iinc 1 1, 3) := by decide +kernel
theorem dX8_passesDay_21 : decode cX8_passesDay 21 = .ok (.goto (-19), 3) := by decide +kernel
theorem dX8_passesDay_24 : decode cX8_passesDay 24 = .ok (.iconst 0, 1) := by decide +kernel
theorem dX8_passesDay_25 : decode cX8_passesDay 25 = .ok (.istore_n 1, 1) := by decide +kernel
theorem dX8_passesDay_26 : decode cX8_passesDay 26 = .ok (.iload_n 1, 1) := by decide +kernel
theorem dX8_passesDay_27 : decode cX8_passesDay 27 = .ok (.aload_n 0, 1) := by decide +kernel
theorem dX8_passesDay_28 : decode cX8_passesDay 28 = .ok (.getfield 19, 3) := by decide +kernel
theorem dX8_passesDay_31 : decode cX8_passesDay 31 = .ok (.bipush 7, 2) := by decide +kernel
theorem dX8_passesDay_33 : decode cX8_passesDay 33 = .ok (.iaload, 1) := by decide +kernel
theorem dX8_passesDay_34 : decode cX8_passesDay 34 = .ok (.if_icmp .ge 14, 3) := by decide +kernel
theorem dX8_passesDay_37 : decode cX8_passesDay 37 = .ok (.aload_n 0, 1) := by decide +kernel
theorem dX8_passesDay_38 : decode cX8_passesDay 38 = .ok (.iload_n 1, 1) := by decide +kernel
theorem dX8_passesDay_39 : decode cX8_passesDay 39 = .ok (.invokevirtual 115, 3) := by decide +kernel
theorem dX8_passesDay_42 : decode cX8_passesDay 42 = .ok (.iinc 1 1, 3) := by decide +kernel
theorem dX8_passesDay_45 : decode cX8_passesDay 45 = .ok (.goto (-19), 3) := by decide +kernel
theorem dX8_passesDay_48 : decode cX8_passesDay 48 = .ok (.aload_n 0, 1) := by decide +kernel
theorem dX8_passesDay_49 : decode cX8_passesDay 49 = .ok (.invokevirtual 118, 3) := by decide +kernel
theorem dX8_passesDay_52 : decode cX8_passesDay 52 = .ok (.iconst 0, 1) := by decide +kernel
theorem dX8_passesDay_53 : decode cX8_passesDay 53 = .ok (.istore_n 1, 1) := by decide +kernel
theorem dX8_passesDay_54 : decode cX8_passesDay 54 = .ok (.iload_n 1, 1) := by decide +kernel
theorem dX8_passesDay_55 : decode cX8_passesDay 55 = .ok (.aload_n 0, 1) := by decide +kernel
theorem dX8_passesDay_56 : decode cX8_passesDay 56 = .ok (.getfield 19, 3) := by decide +kernel
theorem dX8_passesDay_59 : decode cX8_passesDay 59 = .ok (.bipush 7, 2) := by decide +kernel
theorem dX8_passesDay_61 : decode cX8_passesDay 61 = .ok (.iaload, 1) := by decide +kernel
theorem dX8_passesDay_62 : decode cX8_passesDay 62 = .ok (.if_icmp .ge 14, 3) := by decide +kernel
theorem dX8_passesDay_65 : decode cX8_passesDay 65 = .ok (.aload_n 0, 1) := by decide +kernel
theorem dX8_passesDay_66 : decode cX8_passesDay 66 = .ok (.iload_n 1, 1) := by decide +kernel
theorem dX8_passesDay_67 : decode cX8_passesDay 67 = .ok (.invokevirtual 121, 3) := by decide +kernel
theorem dX8_passesDay_70 : decode cX8_passesDay 70 = .ok (.iinc 1 1, 3) := by decide +kernel
theorem dX8_passesDay_73 : decode cX8_passesDay 73 = .ok (.goto (-19), 3) := by decide +kernel
theorem dX8_passesDay_76 : decode cX8_passesDay 76 = .ok (.aload_n 0, 1) := by decide +kernel
theorem dX8_passesDay_77 : decode cX8_passesDay 77 = .ok (.getfield 19, 3) := by decide +kernel
theorem dX8_passesDay_80 : decode cX8_passesDay 80 = .ok (.bipush 8, 2) := by decide +kernel
theorem dX8_passesDay_82 : decode cX8_passesDay 82 = .ok (.dup2, 1) := by decide +kernel
theorem dX8_passesDay_83 : decode cX8_passesDay 83 = .ok (.iaload, 1) := by decide +kernel
theorem dX8_passesDay_84 : decode cX8_passesDay 84 = .ok (.iconst 1, 1) := by decide +kernel
theorem dX8_passesDay_85 : decode cX8_passesDay 85 = .ok (.iadd, 1) := by decide +kernel
theorem dX8_passesDay_86 : decode cX8_passesDay 86 = .ok (.iastore, 1) := by decide +kernel
theorem dX8_passesDay_87 : decode cX8_passesDay 87 = .ok (.aload_n 0, 1) := by decide +kernel
theorem dX8_passesDay_88 : decode cX8_passesDay 88 = .ok (.getfield 19, 3) := by decide +kernel
theorem dX8_passesDay_91 : decode cX8_passesDay 91 = .ok (.bipush 8, 2) := by decide +kernel
theorem dX8_passesDay_93 : decode cX8_passesDay 93 = .ok (.iaload, 1) := by decide +kernel
theorem dX8_passesDay_94 : decode cX8_passesDay 94 = .ok (.bipush 7, 2) := by decide +kernel
theorem dX8_passesDay_96 : decode cX8_passesDay 96 = .ok (.irem, 1) := by decide +kernel
theorem dX8_passesDay_97 : decode cX8_passesDay 97 = .ok (.ifCond .ne 7, 3) := by decide +kernel
theorem dX8_passesDay_100 : decode cX8_passesDay 100 = .ok (.aload_n 0, 1) := by decide +kernel
theorem dX8_passesDay_101 : decode cX8_passesDay 101 = .ok (.invokevirtual 124, 3) := by decide +kernel
theorem dX8_passesDay_104 : decode cX8_passesDay 104 = .ok (.return_, 1) := by decide +kernel
theorem dX8_passes_0 : decode cX8_passes 0 = .ok (.iconst 0, 1) := by decide +kernel
theorem dX8_passes_1 : decode cX8_passes 1 = .ok (.istore_n 2, 1) := by decide +kernel
theorem dX8_passes_2 : decode cX8_passes 2 = .ok (.iload_n 2, 1) := by decide +kernel
theorem dX8_passes_3 : decode cX8_passes 3 = .ok (.iload_n 1, 1) := by decide +kernel
theorem dX8_passes_4 : decode cX8_passes 4 = .ok (.if_icmp .ge 13, 3) := by decide +kernel
theorem dX8_passes_7 : decode cX8_passes 7 = .ok (.aload_n 0, 1) := by decide +kernel
theorem dX8_passes_8 : decode cX8_passes 8 = .ok (.invokevirtual 60, 3) := by decide +kernel
theorem dX8_passes_11 : decode cX8_passes 11 = .ok (.iinc 2 1, 3) := by decide +kernel
theorem dX8_passes_14 : decode cX8_passes 14 = .ok (.goto (-12), 3) := by decide +kernel
theorem dX8_passes_17 : decode cX8_passes 17 = .ok (.return_, 1) := by decide +kernel
theorem dX8_remembers_0 : decode cX8_remembers 0 = .ok (.aload_n 0, 1) := by decide +kernel
theorem dX8_remembers_1 : decode cX8_remembers 1 = .ok (.getfield 127, 3) := by decide +kernel
theorem dX8_remembers_4 : decode cX8_remembers 4 = .ok (.bipush 10, 2) := by decide +kernel
theorem dX8_remembers_6 : decode cX8_remembers 6 = .ok (.if_icmp .ne 46, 3) := by decide +kernel
theorem dX8_remembers_9 : decode cX8_remembers 9 = .ok (.sipush 205, 3) := by decide +kernel
theorem dX8_remembers_12 : decode cX8_remembers 12 = .ok (.istore_n 1, 1) := by decide +kernel
theorem dX8_remembers_13 : decode cX8_remembers 13 = .ok (.iload_n 1, 1) := by decide +kernel
theorem dX8_remembers_14 : decode cX8_remembers 14 = .ok (.sipush 2050, 3) := by decide +kernel
theorem dX8_remembers_17 : decode cX8_remembers 17 = .ok (.if_icmp .ge 25, 3) := by decide +kernel
theorem dX8_remembers_20 : decode cX8_remembers 20 = .ok (.aload_n 0, 1) := by decide +kernel
theorem dX8_remembers_21 : decode cX8_remembers 21 = .ok (.getfield 25, 3) := by decide +kernel
theorem dX8_remembers_24 : decode cX8_remembers 24 = .ok (.iload_n 1, 1) := by decide +kernel
theorem dX8_remembers_25 : decode cX8_remembers 25 = .ok (.sipush 205, 3) := by decide +kernel
theorem dX8_remembers_28 : decode cX8_remembers 28 = .ok (.isub, 1) := by decide +kernel
theorem dX8_remembers_29 : decode cX8_remembers 29 = .ok (.aload_n 0, 1) := by decide +kernel
theorem dX8_remembers_30 : decode cX8_remembers 30 = .ok (.getfield 25, 3) := by decide +kernel
theorem dX8_remembers_33 : decode cX8_remembers 33 = .ok (.iload_n 1, 1) := by decide +kernel
theorem dX8_remembers_34 : decode cX8_remembers 34 = .ok (.iaload, 1) := by decide +kernel
theorem dX8_remembers_35 : decode cX8_remembers 35 = .ok (.iastore, 1) := by decide +kernel
theorem dX8_remembers_36 : decode cX8_remembers 36 = .ok (.iinc 1 1, 3) := by decide +kernel
theorem dX8_remembers_39 : decode cX8_remembers 39 = .ok (.goto (-26), 3) := by decide +kernel
theorem dX8_remembers_42 : decode cX8_remembers 42 = .ok (.aload_n 0, 1) := by decide +kernel
theorem dX8_remembers_43 : decode cX8_remembers 43 = .ok (.dup, 1) := by decide +kernel
theorem dX8_remembers_44 : decode cX8_remembers 44 = .ok (.getfield 127, 3) := by decide +kernel
theorem dX8_remembers_47 : decode cX8_remembers 47 = .ok (.iconst 1, 1) := by decide +kernel
theorem dX8_remembers_48 : decode cX8_remembers 48 = .ok (.isub, 1) := by decide +kernel
theorem dX8_remembers_49 : decode cX8_remembers 49 = .ok (.putfield 127, 3) := by decide +kernel
theorem dX8_remembers_52 : decode cX8_remembers 52 = .ok (.iconst 0, 1) := by decide +kernel
theorem dX8_remembers_53 : decode cX8_remembers 53 = .ok (.istore_n 1, 1) := by decide +kernel
theorem dX8_remembers_54 : decode cX8_remembers 54 = .ok (.iload_n 1, 1) := by decide +kernel
theorem dX8_remembers_55 : decode cX8_remembers 55 = .ok (.sipush 205, 3) := by decide +kernel
theorem dX8_remembers_58 : decode cX8_remembers 58 = .ok (.if_icmp .ge 30, 3) := by decide +kernel
theorem dX8_remembers_61 : decode cX8_remembers 61 = .ok (.aload_n 0, 1) := by decide +kernel
theorem dX8_remembers_62 : decode cX8_remembers 62 = .ok (.getfield 25, 3) := by decide +kernel
theorem dX8_remembers_65 : decode cX8_remembers 65 = .ok (.aload_n 0, 1) := by decide +kernel
theorem dX8_remembers_66 : decode cX8_remembers 66 = .ok (.getfield 127, 3) := by decide +kernel
theorem dX8_remembers_69 : decode cX8_remembers 69 = .ok (.sipush 205, 3) := by decide +kernel
theorem dX8_remembers_72 : decode cX8_remembers 72 = .ok (.imul, 1) := by decide +kernel
theorem dX8_remembers_73 : decode cX8_remembers 73 = .ok (.iload_n 1, 1) := by decide +kernel
theorem dX8_remembers_74 : decode cX8_remembers 74 = .ok (.iadd, 1) := by decide +kernel
theorem dX8_remembers_75 : decode cX8_remembers 75 = .ok (.aload_n 0, 1) := by decide +kernel
theorem dX8_remembers_76 : decode cX8_remembers 76 = .ok (.getfield 19, 3) := by decide +kernel
theorem dX8_remembers_79 : decode cX8_remembers 79 = .ok (.iload_n 1, 1) := by decide +kernel
theorem dX8_remembers_80 : decode cX8_remembers 80 = .ok (.iaload, 1) := by decide +kernel
theorem dX8_remembers_81 : decode cX8_remembers 81 = .ok (.iastore, 1) := by decide +kernel
theorem dX8_remembers_82 : decode cX8_remembers 82 = .ok (.iinc 1 1, 3) := by decide +kernel
theorem dX8_remembers_85 : decode cX8_remembers 85 = .ok (.goto (-31), 3) := by decide +kernel
theorem dX8_remembers_88 : decode cX8_remembers 88 = .ok (.aload_n 0, 1) := by decide +kernel
theorem dX8_remembers_89 : decode cX8_remembers 89 = .ok (.dup, 1) := by decide +kernel
theorem dX8_remembers_90 : decode cX8_remembers 90 = .ok (.getfield 127, 3) := by decide +kernel
theorem dX8_remembers_93 : decode cX8_remembers 93 = .ok (.iconst 1, 1) := by decide +kernel
theorem dX8_remembers_94 : decode cX8_remembers 94 = .ok (.iadd, 1) := by decide +kernel
theorem dX8_remembers_95 : decode cX8_remembers 95 = .ok (.putfield 127, 3) := by decide +kernel
theorem dX8_remembers_98 : decode cX8_remembers 98 = .ok (.return_, 1) := by decide +kernel
theorem dX8_putsAside_0 : decode cX8_putsAside 0 = .ok (.iconst 0, 1) := by decide +kernel
theorem dX8_putsAside_1 : decode cX8_putsAside 1 = .ok (.istore_n 1, 1) := by decide +kernel
theorem dX8_putsAside_2 : decode cX8_putsAside 2 = .ok (.iload_n 1, 1) := by decide +kernel
theorem dX8_putsAside_3 : decode cX8_putsAside 3 = .ok (.sipush 205, 3) := by decide +kernel
theorem dX8_putsAside_6 : decode cX8_putsAside 6 = .ok (.if_icmp .ge 21, 3) := by decide +kernel
theorem dX8_putsAside_9 : decode cX8_putsAside 9 = .ok (.aload_n 0, 1) := by decide +kernel
theorem dX8_putsAside_10 : decode cX8_putsAside 10 = .ok (.getfield 22, 3) := by decide +kernel
theorem dX8_putsAside_13 : decode cX8_putsAside 13 = .ok (.iload_n 1, 1) := by decide +kernel
theorem dX8_putsAside_14 : decode cX8_putsAside 14 = .ok (.aload_n 0, 1) := by decide +kernel
theorem dX8_putsAside_15 : decode cX8_putsAside 15 = .ok (.getfield 19, 3) := by decide +kernel
theorem dX8_putsAside_18 : decode cX8_putsAside 18 = .ok (.iload_n 1, 1) := by decide +kernel
theorem dX8_putsAside_19 : decode cX8_putsAside 19 = .ok (.iaload, 1) := by decide +kernel
theorem dX8_putsAside_20 : decode cX8_putsAside 20 = .ok (.iastore, 1) := by decide +kernel
theorem dX8_putsAside_21 : decode cX8_putsAside 21 = .ok (.iinc 1 1, 3) := by decide +kernel
theorem dX8_putsAside_24 : decode cX8_putsAside 24 = .ok (.goto (-22), 3) := by decide +kernel
theorem dX8_putsAside_27 : decode cX8_putsAside 27 = .ok (.return_, 1) := by decide +kernel
theorem dX8_putsBack_0 : decode cX8_putsBack 0 = .ok (.iconst 0, 1) := by decide +kernel
theorem dX8_putsBack_1 : decode cX8_putsBack 1 = .ok (.istore_n 1, 1) := by decide +kernel
theorem dX8_putsBack_2 : decode cX8_putsBack 2 = .ok (.iload_n 1, 1) := by decide +kernel
theorem dX8_putsBack_3 : decode cX8_putsBack 3 = .ok (.sipush 205, 3) := by decide +kernel
theorem dX8_putsBack_6 : decode cX8_putsBack 6 = .ok (.if_icmp .ge 21, 3) := by decide +kernel
theorem dX8_putsBack_9 : decode cX8_putsBack 9 = .ok (.aload_n 0, 1) := by decide +kernel
theorem dX8_putsBack_10 : decode cX8_putsBack 10 = .ok (.getfield 19, 3) := by decide +kernel
theorem dX8_putsBack_13 : decode cX8_putsBack 13 = .ok (.iload_n 1, 1) := by decide +kernel
theorem dX8_putsBack_14 : decode cX8_putsBack 14 = .ok (.aload_n 0, 1) := by decide +kernel
theorem dX8_putsBack_15 : decode cX8_putsBack 15 = .ok (.getfield 22, 3) := by decide +kernel
theorem dX8_putsBack_18 : decode cX8_putsBack 18 = .ok (.iload_n 1, 1) := by decide +kernel
theorem dX8_putsBack_19 : decode cX8_putsBack 19 = .ok (.iaload, 1) := by decide +kernel
theorem dX8_putsBack_20 : decode cX8_putsBack 20 = .ok (.iastore, 1) := by decide +kernel
theorem dX8_putsBack_21 : decode cX8_putsBack 21 = .ok (.iinc 1 1, 3) := by decide +kernel
theorem dX8_putsBack_24 : decode cX8_putsBack 24 = .ok (.goto (-22), 3) := by decide +kernel
theorem dX8_putsBack_27 : decode cX8_putsBack 27 = .ok (.aload_n 0, 1) := by decide +kernel
theorem dX8_putsBack_28 : decode cX8_putsBack 28 = .ok (.iconst (-1), 1) := by decide +kernel
theorem dX8_putsBack_29 : decode cX8_putsBack 29 = .ok (.putfield 37, 3) := by decide +kernel
theorem dX8_putsBack_32 : decode cX8_putsBack 32 = .ok (.return_, 1) := by decide +kernel
theorem dX8_isLetter_0 : decode cX8_isLetter 0 = .ok (.iload_n 0, 1) := by decide +kernel
theorem dX8_isLetter_1 : decode cX8_isLetter 1 = .ok (.bipush 97, 2) := by decide +kernel
theorem dX8_isLetter_3 : decode cX8_isLetter 3 = .ok (.if_icmp .lt 13, 3) := by decide +kernel
theorem dX8_isLetter_6 : decode cX8_isLetter 6 = .ok (.iload_n 0, 1) := by decide +kernel
theorem dX8_isLetter_7 : decode cX8_isLetter 7 = .ok (.bipush 122, 2) := by decide +kernel
theorem dX8_isLetter_9 : decode cX8_isLetter 9 = .ok (.if_icmp .gt 7, 3) := by decide +kernel
theorem dX8_isLetter_12 : decode cX8_isLetter 12 = .ok (.iconst 1, 1) := by decide +kernel
theorem dX8_isLetter_13 : decode cX8_isLetter 13 = .ok (.goto 4, 3) := by decide +kernel
theorem dX8_isLetter_16 : decode cX8_isLetter 16 = .ok (.iconst 0, 1) := by decide +kernel
theorem dX8_isLetter_17 : decode cX8_isLetter 17 = .ok (.ireturn, 1) := by decide +kernel
theorem dX8_isDigit_0 : decode cX8_isDigit 0 = .ok (.iload_n 0, 1) := by decide +kernel
theorem dX8_isDigit_1 : decode cX8_isDigit 1 = .ok (.bipush 48, 2) := by decide +kernel
theorem dX8_isDigit_3 : decode cX8_isDigit 3 = .ok (.if_icmp .lt 13, 3) := by decide +kernel
theorem dX8_isDigit_6 : decode cX8_isDigit 6 = .ok (.iload_n 0, 1) := by decide +kernel
theorem dX8_isDigit_7 : decode cX8_isDigit 7 = .ok (.bipush 57, 2) := by decide +kernel
theorem dX8_isDigit_9 : decode cX8_isDigit 9 = .ok (.if_icmp .gt 7, 3) := by decide +kernel
theorem dX8_isDigit_12 : decode cX8_isDigit 12 = .ok (.iconst 1, 1) := by decide +kernel
theorem dX8_isDigit_13 : decode cX8_isDigit 13 = .ok (.goto 4, 3) := by decide +kernel
theorem dX8_isDigit_16 : decode cX8_isDigit 16 = .ok (.iconst 0, 1) := by decide +kernel
theorem dX8_isDigit_17 : decode cX8_isDigit 17 = .ok (.ireturn, 1) := by decide +kernel
theorem dX8_next_0 : decode cX8_next 0 = .ok (.aload_n 0, 1) := by decide +kernel
theorem dX8_next_1 : decode cX8_next 1 = .ok (.getfield 130, 3) := by decide +kernel
theorem dX8_next_4 : decode cX8_next 4 = .ok (.iconst 1, 1) := by decide +kernel
theorem dX8_next_5 : decode cX8_next 5 = .ok (.if_icmp .eq 11, 3) := by decide +kernel
theorem dX8_next_8 : decode cX8_next 8 = .ok (.aload_n 0, 1) := by decide +kernel
theorem dX8_next_9 : decode cX8_next 9 = .ok (.getfield 130, 3) := by decide +kernel
theorem dX8_next_12 : decode cX8_next 12 = .ok (.iconst 2, 1) := by decide +kernel
theorem dX8_next_13 : decode cX8_next 13 = .ok (.if_icmp .ne 7, 3) := by decide +kernel
theorem dX8_next_16 : decode cX8_next 16 = .ok (.iconst 1, 1) := by decide +kernel
theorem dX8_next_17 : decode cX8_next 17 = .ok (.goto 4, 3) := by decide +kernel
theorem dX8_next_20 : decode cX8_next 20 = .ok (.iconst 0, 1) := by decide +kernel
theorem dX8_next_21 : decode cX8_next 21 = .ok (.istore_n 1, 1) := by decide +kernel
theorem dX8_next_22 : decode cX8_next 22 = .ok (.aload_n 0, 1) := by decide +kernel
theorem dX8_next_23 : decode cX8_next 23 = .ok (.aload_n 0, 1) := by decide +kernel
theorem dX8_next_24 : decode cX8_next 24 = .ok (.getfield 133, 3) := by decide +kernel
theorem dX8_next_27 : decode cX8_next 27 = .ok (.putfield 136, 3) := by decide +kernel
theorem dX8_next_30 : decode cX8_next 30 = .ok (.aload_n 0, 1) := by decide +kernel
theorem dX8_next_31 : decode cX8_next 31 = .ok (.getfield 136, 3) := by decide +kernel
theorem dX8_next_34 : decode cX8_next 34 = .ok (.aload_n 0, 1) := by decide +kernel
theorem dX8_next_35 : decode cX8_next 35 = .ok (.getfield 139, 3) := by decide +kernel
theorem dX8_next_38 : decode cX8_next 38 = .ok (.if_icmp .ge 44, 3) := by decide +kernel
theorem dX8_next_41 : decode cX8_next 41 = .ok (.aload_n 0, 1) := by decide +kernel
theorem dX8_next_42 : decode cX8_next 42 = .ok (.getfield 41, 3) := by decide +kernel
theorem dX8_next_45 : decode cX8_next 45 = .ok (.aload_n 0, 1) := by decide +kernel
theorem dX8_next_46 : decode cX8_next 46 = .ok (.getfield 136, 3) := by decide +kernel
theorem dX8_next_49 : decode cX8_next 49 = .ok (.baload, 1) := by decide +kernel
theorem dX8_next_50 : decode cX8_next 50 = .ok (.bipush 32, 2) := by decide +kernel
theorem dX8_next_52 : decode cX8_next 52 = .ok (.if_icmp .eq 17, 3) := by decide +kernel
theorem dX8_next_55 : decode cX8_next 55 = .ok (.aload_n 0, 1) := by decide +kernel
theorem dX8_next_56 : decode cX8_next 56 = .ok (.getfield 41, 3) := by decide +kernel
theorem dX8_next_59 : decode cX8_next 59 = .ok (.aload_n 0, 1) := by decide +kernel
theorem dX8_next_60 : decode cX8_next 60 = .ok (.getfield 136, 3) := by decide +kernel
theorem dX8_next_63 : decode cX8_next 63 = .ok (.baload, 1) := by decide +kernel
theorem dX8_next_64 : decode cX8_next 64 = .ok (.bipush 10, 2) := by decide +kernel
theorem dX8_next_66 : decode cX8_next 66 = .ok (.if_icmp .ne 16, 3) := by decide +kernel
theorem dX8_next_69 : decode cX8_next 69 = .ok (.aload_n 0, 1) := by decide +kernel
theorem dX8_next_70 : decode cX8_next 70 = .ok (.dup, 1) := by decide +kernel
theorem dX8_next_71 : decode cX8_next 71 = .ok (.getfield 136, 3) := by decide +kernel
theorem dX8_next_74 : decode cX8_next 74 = .ok (.iconst 1, 1) := by decide +kernel
theorem dX8_next_75 : decode cX8_next 75 = .ok (.iadd, 1) := by decide +kernel
theorem dX8_next_76 : decode cX8_next 76 = .ok (.putfield 136, 3) := by decide +kernel
theorem dX8_next_79 : decode cX8_next 79 = .ok (.goto (-49), 3) := by decide +kernel
theorem dX8_next_82 : decode cX8_next 82 = .ok (.iload_n 1, 1) := by decide +kernel
theorem dX8_next_83 : decode cX8_next 83 = .ok (.ifCond .eq 18, 3) := by decide +kernel
theorem dX8_next_86 : decode cX8_next 86 = .ok (.aload_n 0, 1) := by decide +kernel
theorem dX8_next_87 : decode cX8_next 87 = .ok (.getfield 136, 3) := by decide +kernel
theorem dX8_next_90 : decode cX8_next 90 = .ok (.aload_n 0, 1) := by decide +kernel
theorem dX8_next_91 : decode cX8_next 91 = .ok (.getfield 133, 3) := by decide +kernel
theorem dX8_next_94 : decode cX8_next 94 = .ok (.if_icmp .ne 7, 3) := by decide +kernel
theorem dX8_next_97 : decode cX8_next 97 = .ok (.iconst 1, 1) := by decide +kernel
theorem dX8_next_98 : decode cX8_next 98 = .ok (.goto 4, 3) := by decide +kernel
theorem dX8_next_101 : decode cX8_next 101 = .ok (.iconst 0, 1) := by decide +kernel
theorem dX8_next_102 : decode cX8_next 102 = .ok (.istore_n 2, 1) := by decide +kernel
theorem dX8_next_103 : decode cX8_next 103 = .ok (.aload_n 0, 1) := by decide +kernel
theorem dX8_next_104 : decode cX8_next 104 = .ok (.aload_n 0, 1) := by decide +kernel
theorem dX8_next_105 : decode cX8_next 105 = .ok (.getfield 136, 3) := by decide +kernel
theorem dX8_next_108 : decode cX8_next 108 = .ok (.putfield 133, 3) := by decide +kernel
theorem dX8_next_111 : decode cX8_next 111 = .ok (.aload_n 0, 1) := by decide +kernel
theorem dX8_next_112 : decode cX8_next 112 = .ok (.getfield 136, 3) := by decide +kernel
theorem dX8_next_115 : decode cX8_next 115 = .ok (.aload_n 0, 1) := by decide +kernel
theorem dX8_next_116 : decode cX8_next 116 = .ok (.getfield 139, 3) := by decide +kernel
theorem dX8_next_119 : decode cX8_next 119 = .ok (.if_icmp .ne 11, 3) := by decide +kernel
theorem dX8_next_122 : decode cX8_next 122 = .ok (.aload_n 0, 1) := by decide +kernel
theorem dX8_next_123 : decode cX8_next 123 = .ok (.iconst 0, 1) := by decide +kernel
theorem dX8_next_124 : decode cX8_next 124 = .ok (.putfield 130, 3) := by decide +kernel
theorem dX8_next_127 : decode cX8_next 127 = .ok (.goto 231, 3) := by decide +kernel
theorem dX8_next_130 : decode cX8_next 130 = .ok (.aload_n 0, 1) := by decide +kernel
theorem dX8_next_131 : decode cX8_next 131 = .ok (.getfield 41, 3) := by decide +kernel
theorem dX8_next_134 : decode cX8_next 134 = .ok (.aload_n 0, 1) := by decide +kernel
theorem dX8_next_135 : decode cX8_next 135 = .ok (.getfield 136, 3) := by decide +kernel
theorem dX8_next_138 : decode cX8_next 138 = .ok (.baload, 1) := by decide +kernel
theorem dX8_next_139 : decode cX8_next 139 = .ok (.invokestatic 142, 3) := by decide +kernel
theorem dX8_next_142 : decode cX8_next 142 = .ok (.ifCond .eq 58, 3) := by decide +kernel
theorem dX8_next_145 : decode cX8_next 145 = .ok (.aload_n 0, 1) := by decide +kernel
theorem dX8_next_146 : decode cX8_next 146 = .ok (.getfield 133, 3) := by decide +kernel
theorem dX8_next_149 : decode cX8_next 149 = .ok (.aload_n 0, 1) := by decide +kernel
theorem dX8_next_150 : decode cX8_next 150 = .ok (.getfield 139, 3) := by decide +kernel
theorem dX8_next_153 : decode cX8_next 153 = .ok (.if_icmp .ge 31, 3) := by decide +kernel
theorem dX8_next_156 : decode cX8_next 156 = .ok (.aload_n 0, 1) := by decide +kernel
theorem dX8_next_157 : decode cX8_next 157 = .ok (.getfield 41, 3) := by decide +kernel
theorem dX8_next_160 : decode cX8_next 160 = .ok (.aload_n 0, 1) := by decide +kernel
theorem dX8_next_161 : decode cX8_next 161 = .ok (.getfield 133, 3) := by decide +kernel
theorem dX8_next_164 : decode cX8_next 164 = .ok (.baload, 1) := by decide +kernel
theorem dX8_next_165 : decode cX8_next 165 = .ok (.invokestatic 142, 3) := by decide +kernel
theorem dX8_next_168 : decode cX8_next 168 = .ok (.ifCond .eq 16, 3) := by decide +kernel
theorem dX8_next_171 : decode cX8_next 171 = .ok (.aload_n 0, 1) := by decide +kernel
theorem dX8_next_172 : decode cX8_next 172 = .ok (.dup, 1) := by decide +kernel
theorem dX8_next_173 : decode cX8_next 173 = .ok (.getfield 133, 3) := by decide +kernel
theorem dX8_next_176 : decode cX8_next 176 = .ok (.iconst 1, 1) := by decide +kernel
theorem dX8_next_177 : decode cX8_next 177 = .ok (.iadd, 1) := by decide +kernel
theorem dX8_next_178 : decode cX8_next 178 = .ok (.putfield 133, 3) := by decide +kernel
theorem dX8_next_181 : decode cX8_next 181 = .ok (.goto (-36), 3) := by decide +kernel
theorem dX8_next_184 : decode cX8_next 184 = .ok (.aload_n 0, 1) := by decide +kernel
theorem dX8_next_185 : decode cX8_next 185 = .ok (.iload_n 2, 1) := by decide +kernel
theorem dX8_next_186 : decode cX8_next 186 = .ok (.ifCond .eq 7, 3) := by decide +kernel
theorem dX8_next_189 : decode cX8_next 189 = .ok (.iconst 4, 1) := by decide +kernel
theorem dX8_next_190 : decode cX8_next 190 = .ok (.goto 4, 3) := by decide +kernel
theorem dX8_next_193 : decode cX8_next 193 = .ok (.iconst 1, 1) := by decide +kernel
theorem dX8_next_194 : decode cX8_next 194 = .ok (.putfield 130, 3) := by decide +kernel
theorem dX8_next_197 : decode cX8_next 197 = .ok (.goto 161, 3) := by decide +kernel
theorem dX8_next_200 : decode cX8_next 200 = .ok (.aload_n 0, 1) := by decide +kernel
theorem dX8_next_201 : decode cX8_next 201 = .ok (.getfield 41, 3) := by decide +kernel
theorem dX8_next_204 : decode cX8_next 204 = .ok (.aload_n 0, 1) := by decide +kernel
theorem dX8_next_205 : decode cX8_next 205 = .ok (.getfield 136, 3) := by decide +kernel
theorem dX8_next_208 : decode cX8_next 208 = .ok (.baload, 1) := by decide +kernel
theorem dX8_next_209 : decode cX8_next 209 = .ok (.invokestatic 145, 3) := by decide +kernel
theorem dX8_next_212 : decode cX8_next 212 = .ok (.ifCond .eq 113, 3) := by decide +kernel
theorem dX8_next_215 : decode cX8_next 215 = .ok (.aload_n 0, 1) := by decide +kernel
theorem dX8_next_216 : decode cX8_next 216 = .ok (.iconst 0, 1) := by decide +kernel
theorem dX8_next_217 : decode cX8_next 217 = .ok (.putfield 148, 3) := by decide +kernel
theorem dX8_next_220 : decode cX8_next 220 = .ok (.aload_n 0, 1) := by decide +kernel
theorem dX8_next_221 : decode cX8_next 221 = .ok (.getfield 133, 3) := by decide +kernel
theorem dX8_next_224 : decode cX8_next 224 = .ok (.aload_n 0, 1) := by decide +kernel
theorem dX8_next_225 : decode cX8_next 225 = .ok (.getfield 139, 3) := by decide +kernel
theorem dX8_next_228 : decode cX8_next 228 = .ok (.if_icmp .ge 68, 3) := by decide +kernel
theorem dX8_next_231 : decode cX8_next 231 = .ok (.aload_n 0, 1) := by decide +kernel
theorem dX8_next_232 : decode cX8_next 232 = .ok (.getfield 41, 3) := by decide +kernel
theorem dX8_next_235 : decode cX8_next 235 = .ok (.aload_n 0, 1) := by decide +kernel
theorem dX8_next_236 : decode cX8_next 236 = .ok (.getfield 133, 3) := by decide +kernel
theorem dX8_next_239 : decode cX8_next 239 = .ok (.baload, 1) := by decide +kernel
theorem dX8_next_240 : decode cX8_next 240 = .ok (.invokestatic 145, 3) := by decide +kernel
theorem dX8_next_243 : decode cX8_next 243 = .ok (.ifCond .eq 53, 3) := by decide +kernel
theorem dX8_next_246 : decode cX8_next 246 = .ok (.aload_n 0, 1) := by decide +kernel
theorem dX8_next_247 : decode cX8_next 247 = .ok (.getfield 133, 3) := by decide +kernel
theorem dX8_next_250 : decode cX8_next 250 = .ok (.aload_n 0, 1) := by decide +kernel
theorem dX8_next_251 : decode cX8_next 251 = .ok (.getfield 136, 3) := by decide +kernel
theorem dX8_next_254 : decode cX8_next 254 = .ok (.isub, 1) := by decide +kernel
theorem dX8_next_255 : decode cX8_next 255 = .ok (.iconst 3, 1) := by decide +kernel
theorem dX8_next_256 : decode cX8_next 256 = .ok (.if_icmp .ge 27, 3) := by decide +kernel
theorem dX8_next_259 : decode cX8_next 259 = .ok (.aload_n 0, 1) := by decide +kernel
theorem dX8_next_260 : decode cX8_next 260 = .ok (.bipush 10, 2) := by decide +kernel
theorem dX8_next_262 : decode cX8_next 262 = .ok (.aload_n 0, 1) := by decide +kernel
theorem dX8_next_263 : decode cX8_next 263 = .ok (.getfield 148, 3) := by decide +kernel
theorem dX8_next_266 : decode cX8_next 266 = .ok (.imul, 1) := by decide +kernel
theorem dX8_next_267 : decode cX8_next 267 = .ok (.aload_n 0, 1) := by decide +kernel
theorem dX8_next_268 : decode cX8_next 268 = .ok (.getfield 41, 3) := by decide +kernel
theorem dX8_next_271 : decode cX8_next 271 = .ok (.aload_n 0, 1) := by decide +kernel
theorem dX8_next_272 : decode cX8_next 272 = .ok (.getfield 133, 3) := by decide +kernel
theorem dX8_next_275 : decode cX8_next 275 = .ok (.baload, 1) := by decide +kernel
theorem dX8_next_276 : decode cX8_next 276 = .ok (.iadd, 1) := by decide +kernel
theorem dX8_next_277 : decode cX8_next 277 = .ok (.bipush 48, 2) := by decide +kernel
theorem dX8_next_279 : decode cX8_next 279 = .ok (.isub, 1) := by decide +kernel
theorem dX8_next_280 : decode cX8_next 280 = .ok (.putfield 148, 3) := by decide +kernel
theorem dX8_next_283 : decode cX8_next 283 = .ok (.aload_n 0, 1) := by decide +kernel
theorem dX8_next_284 : decode cX8_next 284 = .ok (.dup, 1) := by decide +kernel
theorem dX8_next_285 : decode cX8_next 285 = .ok (.getfield 133, 3) := by decide +kernel
theorem dX8_next_288 : decode cX8_next 288 = .ok (.iconst 1, 1) := by decide +kernel
theorem dX8_next_289 : decode cX8_next 289 = .ok (.iadd, 1) := by decide +kernel
theorem dX8_next_290 : decode cX8_next 290 = .ok (.putfield 133, 3) := by decide +kernel
theorem dX8_next_293 : decode cX8_next 293 = .ok (.goto (-73), 3) := by decide +kernel
theorem dX8_next_296 : decode cX8_next 296 = .ok (.aload_n 0, 1) := by decide +kernel
theorem dX8_next_297 : decode cX8_next 297 = .ok (.iload_n 2, 1) := by decide +kernel
theorem dX8_next_298 : decode cX8_next 298 = .ok (.ifCond .ne 16, 3) := by decide +kernel
theorem dX8_next_301 : decode cX8_next 301 = .ok (.aload_n 0, 1) := by decide +kernel
theorem dX8_next_302 : decode cX8_next 302 = .ok (.getfield 133, 3) := by decide +kernel
theorem dX8_next_305 : decode cX8_next 305 = .ok (.aload_n 0, 1) := by decide +kernel
theorem dX8_next_306 : decode cX8_next 306 = .ok (.getfield 136, 3) := by decide +kernel
theorem dX8_next_309 : decode cX8_next 309 = .ok (.isub, 1) := by decide +kernel
theorem dX8_next_310 : decode cX8_next 310 = .ok (.iconst 3, 1) := by decide +kernel
theorem dX8_next_311 : decode cX8_next 311 = .ok (.if_icmp .le 7, 3) := by decide +kernel
theorem dX8_next_314 : decode cX8_next 314 = .ok (.iconst 4, 1) := by decide +kernel
theorem dX8_next_315 : decode cX8_next 315 = .ok (.goto 4, 3) := by decide +kernel
theorem dX8_next_318 : decode cX8_next 318 = .ok (.iconst 2, 1) := by decide +kernel
theorem dX8_next_319 : decode cX8_next 319 = .ok (.putfield 130, 3) := by decide +kernel
theorem dX8_next_322 : decode cX8_next 322 = .ok (.goto 36, 3) := by decide +kernel
theorem dX8_next_325 : decode cX8_next 325 = .ok (.aload_n 0, 1) := by decide +kernel
theorem dX8_next_326 : decode cX8_next 326 = .ok (.aload_n 0, 1) := by decide +kernel
theorem dX8_next_327 : decode cX8_next 327 = .ok (.getfield 136, 3) := by decide +kernel
theorem dX8_next_330 : decode cX8_next 330 = .ok (.iconst 1, 1) := by decide +kernel
theorem dX8_next_331 : decode cX8_next 331 = .ok (.iadd, 1) := by decide +kernel
theorem dX8_next_332 : decode cX8_next 332 = .ok (.putfield 133, 3) := by decide +kernel
theorem dX8_next_335 : decode cX8_next 335 = .ok (.aload_n 0, 1) := by decide +kernel
theorem dX8_next_336 : decode cX8_next 336 = .ok (.aload_n 0, 1) := by decide +kernel
theorem dX8_next_337 : decode cX8_next 337 = .ok (.getfield 41, 3) := by decide +kernel
theorem dX8_next_340 : decode cX8_next 340 = .ok (.aload_n 0, 1) := by decide +kernel
theorem dX8_next_341 : decode cX8_next 341 = .ok (.getfield 136, 3) := by decide +kernel
theorem dX8_next_344 : decode cX8_next 344 = .ok (.baload, 1) := by decide +kernel
theorem dX8_next_345 : decode cX8_next 345 = .ok (.bipush 59, 2) := by decide +kernel
theorem dX8_next_347 : decode cX8_next 347 = .ok (.if_icmp .ne 7, 3) := by decide +kernel
theorem dX8_next_350 : decode cX8_next 350 = .ok (.iconst 3, 1) := by decide +kernel
theorem dX8_next_351 : decode cX8_next 351 = .ok (.goto 4, 3) := by decide +kernel
theorem dX8_next_354 : decode cX8_next 354 = .ok (.iconst 4, 1) := by decide +kernel
theorem dX8_next_355 : decode cX8_next 355 = .ok (.putfield 130, 3) := by decide +kernel
theorem dX8_next_358 : decode cX8_next 358 = .ok (.return_, 1) := by decide +kernel
theorem dX8_errs_0 : decode cX8_errs 0 = .ok (.aload_n 0, 1) := by decide +kernel
theorem dX8_errs_1 : decode cX8_errs 1 = .ok (.getfield 151, 3) := by decide +kernel
theorem dX8_errs_4 : decode cX8_errs 4 = .ok (.ifCond .ne 16, 3) := by decide +kernel
theorem dX8_errs_7 : decode cX8_errs 7 = .ok (.aload_n 0, 1) := by decide +kernel
theorem dX8_errs_8 : decode cX8_errs 8 = .ok (.iload_n 1, 1) := by decide +kernel
theorem dX8_errs_9 : decode cX8_errs 9 = .ok (.putfield 151, 3) := by decide +kernel
theorem dX8_errs_12 : decode cX8_errs 12 = .ok (.aload_n 0, 1) := by decide +kernel
theorem dX8_errs_13 : decode cX8_errs 13 = .ok (.aload_n 0, 1) := by decide +kernel
theorem dX8_errs_14 : decode cX8_errs 14 = .ok (.getfield 136, 3) := by decide +kernel
theorem dX8_errs_17 : decode cX8_errs 17 = .ok (.putfield 154, 3) := by decide +kernel
theorem dX8_errs_20 : decode cX8_errs 20 = .ok (.return_, 1) := by decide +kernel
theorem dX8_isKey_0 : decode cX8_isKey 0 = .ok (.aload_n 0, 1) := by decide +kernel
theorem dX8_isKey_1 : decode cX8_isKey 1 = .ok (.getfield 130, 3) := by decide +kernel
theorem dX8_isKey_4 : decode cX8_isKey 4 = .ok (.iconst 1, 1) := by decide +kernel
theorem dX8_isKey_5 : decode cX8_isKey 5 = .ok (.if_icmp .ne 17, 3) := by decide +kernel
theorem dX8_isKey_8 : decode cX8_isKey 8 = .ok (.aload_n 0, 1) := by decide +kernel
theorem dX8_isKey_9 : decode cX8_isKey 9 = .ok (.getfield 133, 3) := by decide +kernel
theorem dX8_isKey_12 : decode cX8_isKey 12 = .ok (.aload_n 0, 1) := by decide +kernel
theorem dX8_isKey_13 : decode cX8_isKey 13 = .ok (.getfield 136, 3) := by decide +kernel
theorem dX8_isKey_16 : decode cX8_isKey 16 = .ok (.isub, 1) := by decide +kernel
theorem dX8_isKey_17 : decode cX8_isKey 17 = .ok (.bipush 8, 2) := by decide +kernel
theorem dX8_isKey_19 : decode cX8_isKey 19 = .ok (.if_icmp .le 5, 3) := by decide +kernel
theorem dX8_isKey_22 : decode cX8_isKey 22 = .ok (.iconst 0, 1) := by decide +kernel
theorem dX8_isKey_23 : decode cX8_isKey 23 = .ok (.ireturn, 1) := by decide +kernel
theorem dX8_isKey_24 : decode cX8_isKey 24 = .ok (.iconst 0, 1) := by decide +kernel
theorem dX8_isKey_25 : decode cX8_isKey 25 = .ok (.istore_n 2, 1) := by decide +kernel
theorem dX8_isKey_26 : decode cX8_isKey 26 = .ok (.iload_n 2, 1) := by decide +kernel
theorem dX8_isKey_27 : decode cX8_isKey 27 = .ok (.bipush 8, 2) := by decide +kernel
theorem dX8_isKey_29 : decode cX8_isKey 29 = .ok (.if_icmp .ge 55, 3) := by decide +kernel
theorem dX8_isKey_32 : decode cX8_isKey 32 = .ok (.iload_n 2, 1) := by decide +kernel
theorem dX8_isKey_33 : decode cX8_isKey 33 = .ok (.aload_n 0, 1) := by decide +kernel
theorem dX8_isKey_34 : decode cX8_isKey 34 = .ok (.getfield 133, 3) := by decide +kernel
theorem dX8_isKey_37 : decode cX8_isKey 37 = .ok (.aload_n 0, 1) := by decide +kernel
theorem dX8_isKey_38 : decode cX8_isKey 38 = .ok (.getfield 136, 3) := by decide +kernel
theorem dX8_isKey_41 : decode cX8_isKey 41 = .ok (.isub, 1) := by decide +kernel
theorem dX8_isKey_42 : decode cX8_isKey 42 = .ok (.if_icmp .ge 17, 3) := by decide +kernel
theorem dX8_isKey_45 : decode cX8_isKey 45 = .ok (.aload_n 0, 1) := by decide +kernel
theorem dX8_isKey_46 : decode cX8_isKey 46 = .ok (.getfield 41, 3) := by decide +kernel
theorem dX8_isKey_49 : decode cX8_isKey 49 = .ok (.aload_n 0, 1) := by decide +kernel
theorem dX8_isKey_50 : decode cX8_isKey 50 = .ok (.getfield 136, 3) := by decide +kernel
theorem dX8_isKey_53 : decode cX8_isKey 53 = .ok (.iload_n 2, 1) := by decide +kernel
theorem dX8_isKey_54 : decode cX8_isKey 54 = .ok (.iadd, 1) := by decide +kernel
theorem dX8_isKey_55 : decode cX8_isKey 55 = .ok (.baload, 1) := by decide +kernel
theorem dX8_isKey_56 : decode cX8_isKey 56 = .ok (.goto 4, 3) := by decide +kernel
theorem dX8_isKey_59 : decode cX8_isKey 59 = .ok (.iconst 0, 1) := by decide +kernel
theorem dX8_isKey_60 : decode cX8_isKey 60 = .ok (.istore_n 3, 1) := by decide +kernel
theorem dX8_isKey_61 : decode cX8_isKey 61 = .ok (.iload_n 3, 1) := by decide +kernel
theorem dX8_isKey_62 : decode cX8_isKey 62 = .ok (.aload_n 0, 1) := by decide +kernel
theorem dX8_isKey_63 : decode cX8_isKey 63 = .ok (.getfield 7, 3) := by decide +kernel
theorem dX8_isKey_66 : decode cX8_isKey 66 = .ok (.bipush 8, 2) := by decide +kernel
theorem dX8_isKey_68 : decode cX8_isKey 68 = .ok (.iload_n 1, 1) := by decide +kernel
theorem dX8_isKey_69 : decode cX8_isKey 69 = .ok (.imul, 1) := by decide +kernel
theorem dX8_isKey_70 : decode cX8_isKey 70 = .ok (.iload_n 2, 1) := by decide +kernel
theorem dX8_isKey_71 : decode cX8_isKey 71 = .ok (.iadd, 1) := by decide +kernel
theorem dX8_isKey_72 : decode cX8_isKey 72 = .ok (.iaload, 1) := by decide +kernel
theorem dX8_isKey_73 : decode cX8_isKey 73 = .ok (.if_icmp .eq 5, 3) := by decide +kernel
theorem dX8_isKey_76 : decode cX8_isKey 76 = .ok (.iconst 0, 1) := by decide +kernel
theorem dX8_isKey_77 : decode cX8_isKey 77 = .ok (.ireturn, 1) := by decide +kernel
theorem dX8_isKey_78 : decode cX8_isKey 78 = .ok (.iinc 2 1, 3) := by decide +kernel
theorem dX8_isKey_81 : decode cX8_isKey 81 = .ok (.goto (-55), 3) := by decide +kernel
theorem dX8_isKey_84 : decode cX8_isKey 84 = .ok (.iconst 1, 1) := by decide +kernel
theorem dX8_isKey_85 : decode cX8_isKey 85 = .ok (.ireturn, 1) := by decide +kernel
theorem dX8_goesOn_0 : decode cX8_goesOn 0 = .ok (.aload_n 0, 1) := by decide +kernel
theorem dX8_goesOn_1 : decode cX8_goesOn 1 = .ok (.getfield 151, 3) := by decide +kernel
theorem dX8_goesOn_4 : decode cX8_goesOn 4 = .ok (.ifCond .ne 7, 3) := by decide +kernel
theorem dX8_goesOn_7 : decode cX8_goesOn 7 = .ok (.aload_n 0, 1) := by decide +kernel
theorem dX8_goesOn_8 : decode cX8_goesOn 8 = .ok (.invokevirtual 157, 3) := by decide +kernel
theorem dX8_goesOn_11 : decode cX8_goesOn 11 = .ok (.return_, 1) := by decide +kernel
theorem dX8_here_0 : decode cX8_here 0 = .ok (.aload_n 0, 1) := by decide +kernel
theorem dX8_here_1 : decode cX8_here 1 = .ok (.getfield 151, 3) := by decide +kernel
theorem dX8_here_4 : decode cX8_here 4 = .ok (.ifCond .ne 16, 3) := by decide +kernel
theorem dX8_here_7 : decode cX8_here 7 = .ok (.aload_n 0, 1) := by decide +kernel
theorem dX8_here_8 : decode cX8_here 8 = .ok (.getfield 130, 3) := by decide +kernel
theorem dX8_here_11 : decode cX8_here 11 = .ok (.iconst 2, 1) := by decide +kernel
theorem dX8_here_12 : decode cX8_here 12 = .ok (.if_icmp .eq 8, 3) := by decide +kernel
theorem dX8_here_15 : decode cX8_here 15 = .ok (.aload_n 0, 1) := by decide +kernel
theorem dX8_here_16 : decode cX8_here 16 = .ok (.iconst 1, 1) := by decide +kernel
theorem dX8_here_17 : decode cX8_here 17 = .ok (.invokevirtual 160, 3) := by decide +kernel
theorem dX8_here_20 : decode cX8_here 20 = .ok (.aload_n 0, 1) := by decide +kernel
theorem dX8_here_21 : decode cX8_here 21 = .ok (.getfield 151, 3) := by decide +kernel
theorem dX8_here_24 : decode cX8_here 24 = .ok (.ifCond .ne 20, 3) := by decide +kernel
theorem dX8_here_27 : decode cX8_here 27 = .ok (.aload_n 0, 1) := by decide +kernel
theorem dX8_here_28 : decode cX8_here 28 = .ok (.getfield 148, 3) := by decide +kernel
theorem dX8_here_31 : decode cX8_here 31 = .ok (.iload_n 1, 1) := by decide +kernel
theorem dX8_here_32 : decode cX8_here 32 = .ok (.iload_n 2, 1) := by decide +kernel
theorem dX8_here_33 : decode cX8_here 33 = .ok (.invokestatic 66, 3) := by decide +kernel
theorem dX8_here_36 : decode cX8_here 36 = .ok (.ifCond .ne 8, 3) := by decide +kernel
theorem dX8_here_39 : decode cX8_here 39 = .ok (.aload_n 0, 1) := by decide +kernel
theorem dX8_here_40 : decode cX8_here 40 = .ok (.iconst 2, 1) := by decide +kernel
theorem dX8_here_41 : decode cX8_here 41 = .ok (.invokevirtual 160, 3) := by decide +kernel
theorem dX8_here_44 : decode cX8_here 44 = .ok (.aload_n 0, 1) := by decide +kernel
theorem dX8_here_45 : decode cX8_here 45 = .ok (.getfield 151, 3) := by decide +kernel
theorem dX8_here_48 : decode cX8_here 48 = .ok (.ifCond .ne 10, 3) := by decide +kernel
theorem dX8_here_51 : decode cX8_here 51 = .ok (.aload_n 0, 1) := by decide +kernel
theorem dX8_here_52 : decode cX8_here 52 = .ok (.getfield 148, 3) := by decide +kernel
theorem dX8_here_55 : decode cX8_here 55 = .ok (.goto 4, 3) := by decide +kernel
theorem dX8_here_58 : decode cX8_here 58 = .ok (.iload_n 1, 1) := by decide +kernel
theorem dX8_here_59 : decode cX8_here 59 = .ok (.ireturn, 1) := by decide +kernel
theorem dX8_takesNumber_0 : decode cX8_takesNumber 0 = .ok (.aload_n 0, 1) := by decide +kernel
theorem dX8_takesNumber_1 : decode cX8_takesNumber 1 = .ok (.iload_n 1, 1) := by decide +kernel
theorem dX8_takesNumber_2 : decode cX8_takesNumber 2 = .ok (.iload_n 2, 1) := by decide +kernel
theorem dX8_takesNumber_3 : decode cX8_takesNumber 3 = .ok (.invokevirtual 163, 3) := by decide +kernel
theorem dX8_takesNumber_6 : decode cX8_takesNumber 6 = .ok (.istore_n 3, 1) := by decide +kernel
theorem dX8_takesNumber_7 : decode cX8_takesNumber 7 = .ok (.aload_n 0, 1) := by decide +kernel
theorem dX8_takesNumber_8 : decode cX8_takesNumber 8 = .ok (.invokevirtual 166, 3) := by decide +kernel
theorem dX8_takesNumber_11 : decode cX8_takesNumber 11 = .ok (.iload_n 3, 1) := by decide +kernel
theorem dX8_takesNumber_12 : decode cX8_takesNumber 12 = .ok (.ireturn, 1) := by decide +kernel
theorem dX8_takesWord_0 : decode cX8_takesWord 0 = .ok (.aload_n 0, 1) := by decide +kernel
theorem dX8_takesWord_1 : decode cX8_takesWord 1 = .ok (.getfield 151, 3) := by decide +kernel
theorem dX8_takesWord_4 : decode cX8_takesWord 4 = .ok (.ifCond .ne 16, 3) := by decide +kernel
theorem dX8_takesWord_7 : decode cX8_takesWord 7 = .ok (.aload_n 0, 1) := by decide +kernel
theorem dX8_takesWord_8 : decode cX8_takesWord 8 = .ok (.iload_n 1, 1) := by decide +kernel
theorem dX8_takesWord_9 : decode cX8_takesWord 9 = .ok (.invokevirtual 169, 3) := by decide +kernel
theorem dX8_takesWord_12 : decode cX8_takesWord 12 = .ok (.ifCond .ne 8, 3) := by decide +kernel
theorem dX8_takesWord_15 : decode cX8_takesWord 15 = .ok (.aload_n 0, 1) := by decide +kernel
theorem dX8_takesWord_16 : decode cX8_takesWord 16 = .ok (.iconst 1, 1) := by decide +kernel
theorem dX8_takesWord_17 : decode cX8_takesWord 17 = .ok (.invokevirtual 160, 3) := by decide +kernel
theorem dX8_takesWord_20 : decode cX8_takesWord 20 = .ok (.aload_n 0, 1) := by decide +kernel
theorem dX8_takesWord_21 : decode cX8_takesWord 21 = .ok (.invokevirtual 166, 3) := by decide +kernel
theorem dX8_takesWord_24 : decode cX8_takesWord 24 = .ok (.return_, 1) := by decide +kernel
theorem dX8_lodgerNamed_0 : decode cX8_lodgerNamed 0 = .ok (.iconst 0, 1) := by decide +kernel
theorem dX8_lodgerNamed_1 : decode cX8_lodgerNamed 1 = .ok (.istore_n 3, 1) := by decide +kernel
theorem dX8_lodgerNamed_2 : decode cX8_lodgerNamed 2 = .ok (.iload_n 3, 1) := by decide +kernel
theorem dX8_lodgerNamed_3 : decode cX8_lodgerNamed 3 = .ok (.aload_n 0, 1) := by decide +kernel
theorem dX8_lodgerNamed_4 : decode cX8_lodgerNamed 4 = .ok (.getfield 19, 3) := by decide +kernel
theorem dX8_lodgerNamed_7 : decode cX8_lodgerNamed 7 = .ok (.bipush 7, 2) := by decide +kernel
theorem dX8_lodgerNamed_9 : decode cX8_lodgerNamed 9 = .ok (.iaload, 1) := by decide +kernel
theorem dX8_lodgerNamed_10 : decode cX8_lodgerNamed 10 = .ok (.if_icmp .ge 123, 3) := by decide +kernel
theorem dX8_lodgerNamed_13 : decode cX8_lodgerNamed 13 = .ok (.iload_n 2, 1) := by decide +kernel
theorem dX8_lodgerNamed_14 : decode cX8_lodgerNamed 14 = .ok (.iload_n 1, 1) := by decide +kernel
theorem dX8_lodgerNamed_15 : decode cX8_lodgerNamed 15 = .ok (.isub, 1) := by decide +kernel
theorem dX8_lodgerNamed_16 : decode cX8_lodgerNamed 16 = .ok (.bipush 6, 2) := by decide +kernel
theorem dX8_lodgerNamed_18 : decode cX8_lodgerNamed 18 = .ok (.if_icmp .gt 12, 3) := by decide +kernel
theorem dX8_lodgerNamed_21 : decode cX8_lodgerNamed 21 = .ok (.iload_n 2, 1) := by decide +kernel
theorem dX8_lodgerNamed_22 : decode cX8_lodgerNamed 22 = .ok (.iload_n 1, 1) := by decide +kernel
theorem dX8_lodgerNamed_23 : decode cX8_lodgerNamed 23 = .ok (.if_icmp .le 7, 3) := by decide +kernel
theorem dX8_lodgerNamed_26 : decode cX8_lodgerNamed 26 = .ok (.iconst 1, 1) := by decide +kernel
theorem dX8_lodgerNamed_27 : decode cX8_lodgerNamed 27 = .ok (.goto 4, 3) := by decide +kernel
theorem dX8_lodgerNamed_30 : decode cX8_lodgerNamed 30 = .ok (.iconst 0, 1) := by decide +kernel
theorem dX8_lodgerNamed_31 : decode cX8_lodgerNamed 31 = .ok (.istore 4, 2) := by decide +kernel
theorem dX8_lodgerNamed_33 : decode cX8_lodgerNamed 33 = .ok (.iconst 0, 1) := by decide +kernel
theorem dX8_lodgerNamed_34 : decode cX8_lodgerNamed 34 = .ok (.istore 5, 2) := by decide +kernel
theorem dX8_lodgerNamed_36 : decode cX8_lodgerNamed 36 = .ok (.iload 5, 2) := by decide +kernel
theorem dX8_lodgerNamed_38 : decode cX8_lodgerNamed 38 = .ok (.bipush 6, 2) := by decide +kernel
theorem dX8_lodgerNamed_40 : decode cX8_lodgerNamed 40 = .ok (.if_icmp .ge 80, 3) := by decide +kernel
theorem dX8_lodgerNamed_43 : decode cX8_lodgerNamed 43 = .ok (.iload 4, 2) := by decide +kernel
theorem dX8_lodgerNamed_45 : decode cX8_lodgerNamed 45 = .ok (.ifCond .eq 75, 3) := by decide +kernel
theorem dX8_lodgerNamed_48 : decode cX8_lodgerNamed 48 = .ok (.aload_n 0, 1) := by decide +kernel
theorem dX8_lodgerNamed_49 : decode cX8_lodgerNamed 49 = .ok (.getfield 19, 3) := by decide +kernel
theorem dX8_lodgerNamed_52 : decode cX8_lodgerNamed 52 = .ok (.iload_n 3, 1) := by decide +kernel
theorem dX8_lodgerNamed_53 : decode cX8_lodgerNamed 53 = .ok (.invokestatic 56, 3) := by decide +kernel
theorem dX8_lodgerNamed_56 : decode cX8_lodgerNamed 56 = .ok (.bipush 10, 2) := by decide +kernel
theorem dX8_lodgerNamed_58 : decode cX8_lodgerNamed 58 = .ok (.iadd, 1) := by decide +kernel
theorem dX8_lodgerNamed_59 : decode cX8_lodgerNamed 59 = .ok (.iload 5, 2) := by decide +kernel
theorem dX8_lodgerNamed_61 : decode cX8_lodgerNamed 61 = .ok (.iadd, 1) := by decide +kernel
theorem dX8_lodgerNamed_62 : decode cX8_lodgerNamed 62 = .ok (.iaload, 1) := by decide +kernel
theorem dX8_lodgerNamed_63 : decode cX8_lodgerNamed 63 = .ok (.iload 5, 2) := by decide +kernel
theorem dX8_lodgerNamed_65 : decode cX8_lodgerNamed 65 = .ok (.iload_n 2, 1) := by decide +kernel
theorem dX8_lodgerNamed_66 : decode cX8_lodgerNamed 66 = .ok (.iload_n 1, 1) := by decide +kernel
theorem dX8_lodgerNamed_67 : decode cX8_lodgerNamed 67 = .ok (.isub, 1) := by decide +kernel
theorem dX8_lodgerNamed_68 : decode cX8_lodgerNamed 68 = .ok (.if_icmp .ge 15, 3) := by decide +kernel
theorem dX8_lodgerNamed_71 : decode cX8_lodgerNamed 71 = .ok (.aload_n 0, 1) := by decide +kernel
theorem dX8_lodgerNamed_72 : decode cX8_lodgerNamed 72 = .ok (.getfield 41, 3) := by decide +kernel
theorem dX8_lodgerNamed_75 : decode cX8_lodgerNamed 75 = .ok (.iload_n 1, 1) := by decide +kernel
theorem dX8_lodgerNamed_76 : decode cX8_lodgerNamed 76 = .ok (.iload 5, 2) := by decide +kernel
theorem dX8_lodgerNamed_78 : decode cX8_lodgerNamed 78 = .ok (.iadd, 1) := by decide +kernel
theorem dX8_lodgerNamed_79 : decode cX8_lodgerNamed 79 = .ok (.baload, 1) := by decide +kernel
theorem dX8_lodgerNamed_80 : decode cX8_lodgerNamed 80 = .ok (.goto 4, 3) := by decide +kernel
theorem dX8_lodgerNamed_83 : decode cX8_lodgerNamed 83 = .ok (.iconst 0, 1) := by decide +kernel
theorem dX8_lodgerNamed_84 : decode cX8_lodgerNamed 84 = .ok (.if_icmp .ne 27, 3) := by decide +kernel
theorem dX8_lodgerNamed_87 : decode cX8_lodgerNamed 87 = .ok (.iload 5, 2) := by decide +kernel
theorem dX8_lodgerNamed_89 : decode cX8_lodgerNamed 89 = .ok (.iload_n 2, 1) := by decide +kernel
theorem dX8_lodgerNamed_90 : decode cX8_lodgerNamed 90 = .ok (.iload_n 1, 1) := by decide +kernel
theorem dX8_lodgerNamed_91 : decode cX8_lodgerNamed 91 = .ok (.isub, 1) := by decide +kernel
theorem dX8_lodgerNamed_92 : decode cX8_lodgerNamed 92 = .ok (.if_icmp .ge 15, 3) := by decide +kernel
theorem dX8_lodgerNamed_95 : decode cX8_lodgerNamed 95 = .ok (.aload_n 0, 1) := by decide +kernel
theorem dX8_lodgerNamed_96 : decode cX8_lodgerNamed 96 = .ok (.getfield 41, 3) := by decide +kernel
theorem dX8_lodgerNamed_99 : decode cX8_lodgerNamed 99 = .ok (.iload_n 1, 1) := by decide +kernel
theorem dX8_lodgerNamed_100 : decode cX8_lodgerNamed 100 = .ok (.iload 5, 2) := by decide +kernel
theorem dX8_lodgerNamed_102 : decode cX8_lodgerNamed 102 = .ok (.iadd, 1) := by decide +kernel
theorem dX8_lodgerNamed_103 : decode cX8_lodgerNamed 103 = .ok (.baload, 1) := by decide +kernel
theorem dX8_lodgerNamed_104 : decode cX8_lodgerNamed 104 = .ok (.ifCond .eq 7, 3) := by decide +kernel
theorem dX8_lodgerNamed_107 : decode cX8_lodgerNamed 107 = .ok (.iconst 1, 1) := by decide +kernel
theorem dX8_lodgerNamed_108 : decode cX8_lodgerNamed 108 = .ok (.goto 4, 3) := by decide +kernel
theorem dX8_lodgerNamed_111 : decode cX8_lodgerNamed 111 = .ok (.iconst 0, 1) := by decide +kernel
theorem dX8_lodgerNamed_112 : decode cX8_lodgerNamed 112 = .ok (.istore 4, 2) := by decide +kernel
theorem dX8_lodgerNamed_114 : decode cX8_lodgerNamed 114 = .ok (.iinc 5 1, 3) := by decide +kernel
theorem dX8_lodgerNamed_117 : decode cX8_lodgerNamed 117 = .ok (.goto (-81), 3) := by decide +kernel
theorem dX8_lodgerNamed_120 : decode cX8_lodgerNamed 120 = .ok (.iload 4, 2) := by decide +kernel
theorem dX8_lodgerNamed_122 : decode cX8_lodgerNamed 122 = .ok (.ifCond .eq 5, 3) := by decide +kernel
theorem dX8_lodgerNamed_125 : decode cX8_lodgerNamed 125 = .ok (.iload_n 3, 1) := by decide +kernel
theorem dX8_lodgerNamed_126 : decode cX8_lodgerNamed 126 = .ok (.ireturn, 1) := by decide +kernel
theorem dX8_lodgerNamed_127 : decode cX8_lodgerNamed 127 = .ok (.iinc 3 1, 3) := by decide +kernel
theorem dX8_lodgerNamed_130 : decode cX8_lodgerNamed 130 = .ok (.goto (-128), 3) := by decide +kernel
theorem dX8_lodgerNamed_133 : decode cX8_lodgerNamed 133 = .ok (.iconst (-1), 1) := by decide +kernel
theorem dX8_lodgerNamed_134 : decode cX8_lodgerNamed 134 = .ok (.ireturn, 1) := by decide +kernel
theorem dX8_isName_0 : decode cX8_isName 0 = .ok (.aload_n 0, 1) := by decide +kernel
theorem dX8_isName_1 : decode cX8_isName 1 = .ok (.getfield 151, 3) := by decide +kernel
theorem dX8_isName_4 : decode cX8_isName 4 = .ok (.ifCond .ne 30, 3) := by decide +kernel
theorem dX8_isName_7 : decode cX8_isName 7 = .ok (.aload_n 0, 1) := by decide +kernel
theorem dX8_isName_8 : decode cX8_isName 8 = .ok (.getfield 130, 3) := by decide +kernel
theorem dX8_isName_11 : decode cX8_isName 11 = .ok (.iconst 1, 1) := by decide +kernel
theorem dX8_isName_12 : decode cX8_isName 12 = .ok (.if_icmp .ne 17, 3) := by decide +kernel
theorem dX8_isName_15 : decode cX8_isName 15 = .ok (.aload_n 0, 1) := by decide +kernel
theorem dX8_isName_16 : decode cX8_isName 16 = .ok (.getfield 133, 3) := by decide +kernel
theorem dX8_isName_19 : decode cX8_isName 19 = .ok (.aload_n 0, 1) := by decide +kernel
theorem dX8_isName_20 : decode cX8_isName 20 = .ok (.getfield 136, 3) := by decide +kernel
theorem dX8_isName_23 : decode cX8_isName 23 = .ok (.isub, 1) := by decide +kernel
theorem dX8_isName_24 : decode cX8_isName 24 = .ok (.bipush 6, 2) := by decide +kernel
theorem dX8_isName_26 : decode cX8_isName 26 = .ok (.if_icmp .le 8, 3) := by decide +kernel
theorem dX8_isName_29 : decode cX8_isName 29 = .ok (.aload_n 0, 1) := by decide +kernel
theorem dX8_isName_30 : decode cX8_isName 30 = .ok (.iconst 1, 1) := by decide +kernel
theorem dX8_isName_31 : decode cX8_isName 31 = .ok (.invokevirtual 160, 3) := by decide +kernel
theorem dX8_isName_34 : decode cX8_isName 34 = .ok (.return_, 1) := by decide +kernel
theorem dX8_takesAccent_0 : decode cX8_takesAccent 0 = .ok (.iconst 0, 1) := by decide +kernel
theorem dX8_takesAccent_1 : decode cX8_takesAccent 1 = .ok (.istore_n 1, 1) := by decide +kernel
theorem dX8_takesAccent_2 : decode cX8_takesAccent 2 = .ok (.iconst 0, 1) := by decide +kernel
theorem dX8_takesAccent_3 : decode cX8_takesAccent 3 = .ok (.istore_n 2, 1) := by decide +kernel
theorem dX8_takesAccent_4 : decode cX8_takesAccent 4 = .ok (.iload_n 2, 1) := by decide +kernel
theorem dX8_takesAccent_5 : decode cX8_takesAccent 5 = .ok (.iconst 5, 1) := by decide +kernel
theorem dX8_takesAccent_6 : decode cX8_takesAccent 6 = .ok (.if_icmp .ge 22, 3) := by decide +kernel
theorem dX8_takesAccent_9 : decode cX8_takesAccent 9 = .ok (.bipush 10, 2) := by decide +kernel
theorem dX8_takesAccent_11 : decode cX8_takesAccent 11 = .ok (.iload_n 1, 1) := by decide +kernel
theorem dX8_takesAccent_12 : decode cX8_takesAccent 12 = .ok (.imul, 1) := by decide +kernel
theorem dX8_takesAccent_13 : decode cX8_takesAccent 13 = .ok (.aload_n 0, 1) := by decide +kernel
theorem dX8_takesAccent_14 : decode cX8_takesAccent 14 = .ok (.iconst 0, 1) := by decide +kernel
theorem dX8_takesAccent_15 : decode cX8_takesAccent 15 = .ok (.bipush 9, 2) := by decide +kernel
theorem dX8_takesAccent_17 : decode cX8_takesAccent 17 = .ok (.invokevirtual 172, 3) := by decide +kernel
theorem dX8_takesAccent_20 : decode cX8_takesAccent 20 = .ok (.iadd, 1) := by decide +kernel
theorem dX8_takesAccent_21 : decode cX8_takesAccent 21 = .ok (.istore_n 1, 1) := by decide +kernel
theorem dX8_takesAccent_22 : decode cX8_takesAccent 22 = .ok (.iinc 2 1, 3) := by decide +kernel
theorem dX8_takesAccent_25 : decode cX8_takesAccent 25 = .ok (.goto (-21), 3) := by decide +kernel
theorem dX8_takesAccent_28 : decode cX8_takesAccent 28 = .ok (.iload_n 1, 1) := by decide +kernel
theorem dX8_takesAccent_29 : decode cX8_takesAccent 29 = .ok (.ireturn, 1) := by decide +kernel
theorem dX8_readsLodger_0 : decode cX8_readsLodger 0 = .ok (.aload_n 0, 1) := by decide +kernel
theorem dX8_readsLodger_1 : decode cX8_readsLodger 1 = .ok (.getfield 19, 3) := by decide +kernel
theorem dX8_readsLodger_4 : decode cX8_readsLodger 4 = .ok (.bipush 7, 2) := by decide +kernel
theorem dX8_readsLodger_6 : decode cX8_readsLodger 6 = .ok (.iaload, 1) := by decide +kernel
theorem dX8_readsLodger_7 : decode cX8_readsLodger 7 = .ok (.bipush 12, 2) := by decide +kernel
theorem dX8_readsLodger_9 : decode cX8_readsLodger 9 = .ok (.if_icmp .ne 9, 3) := by decide +kernel
theorem dX8_readsLodger_12 : decode cX8_readsLodger 12 = .ok (.aload_n 0, 1) := by decide +kernel
theorem dX8_readsLodger_13 : decode cX8_readsLodger 13 = .ok (.iconst 5, 1) := by decide +kernel
theorem dX8_readsLodger_14 : decode cX8_readsLodger 14 = .ok (.invokevirtual 160, 3) := by decide +kernel
theorem dX8_readsLodger_17 : decode cX8_readsLodger 17 = .ok (.return_, 1) := by decide +kernel
theorem dX8_readsLodger_18 : decode cX8_readsLodger 18 = .ok (.aload_n 0, 1) := by decide +kernel
theorem dX8_readsLodger_19 : decode cX8_readsLodger 19 = .ok (.invokevirtual 157, 3) := by decide +kernel
theorem dX8_readsLodger_22 : decode cX8_readsLodger 22 = .ok (.aload_n 0, 1) := by decide +kernel
theorem dX8_readsLodger_23 : decode cX8_readsLodger 23 = .ok (.invokevirtual 175, 3) := by decide +kernel
theorem dX8_readsLodger_26 : decode cX8_readsLodger 26 = .ok (.aload_n 0, 1) := by decide +kernel
theorem dX8_readsLodger_27 : decode cX8_readsLodger 27 = .ok (.getfield 151, 3) := by decide +kernel
theorem dX8_readsLodger_30 : decode cX8_readsLodger 30 = .ok (.ifCond .ne 24, 3) := by decide +kernel
theorem dX8_readsLodger_33 : decode cX8_readsLodger 33 = .ok (.aload_n 0, 1) := by decide +kernel
theorem dX8_readsLodger_34 : decode cX8_readsLodger 34 = .ok (.aload_n 0, 1) := by decide +kernel
theorem dX8_readsLodger_35 : decode cX8_readsLodger 35 = .ok (.getfield 136, 3) := by decide +kernel
theorem dX8_readsLodger_38 : decode cX8_readsLodger 38 = .ok (.aload_n 0, 1) := by decide +kernel
theorem dX8_readsLodger_39 : decode cX8_readsLodger 39 = .ok (.getfield 133, 3) := by decide +kernel
theorem dX8_readsLodger_42 : decode cX8_readsLodger 42 = .ok (.invokevirtual 178, 3) := by decide +kernel
theorem dX8_readsLodger_45 : decode cX8_readsLodger 45 = .ok (.iconst (-1), 1) := by decide +kernel
theorem dX8_readsLodger_46 : decode cX8_readsLodger 46 = .ok (.if_icmp .eq 8, 3) := by decide +kernel
theorem dX8_readsLodger_49 : decode cX8_readsLodger 49 = .ok (.aload_n 0, 1) := by decide +kernel
theorem dX8_readsLodger_50 : decode cX8_readsLodger 50 = .ok (.iconst 4, 1) := by decide +kernel
theorem dX8_readsLodger_51 : decode cX8_readsLodger 51 = .ok (.invokevirtual 160, 3) := by decide +kernel
theorem dX8_readsLodger_54 : decode cX8_readsLodger 54 = .ok (.aload_n 0, 1) := by decide +kernel
theorem dX8_readsLodger_55 : decode cX8_readsLodger 55 = .ok (.getfield 136, 3) := by decide +kernel
theorem dX8_readsLodger_58 : decode cX8_readsLodger 58 = .ok (.istore_n 1, 1) := by decide +kernel
theorem dX8_readsLodger_59 : decode cX8_readsLodger 59 = .ok (.aload_n 0, 1) := by decide +kernel
theorem dX8_readsLodger_60 : decode cX8_readsLodger 60 = .ok (.getfield 133, 3) := by decide +kernel
theorem dX8_readsLodger_63 : decode cX8_readsLodger 63 = .ok (.aload_n 0, 1) := by decide +kernel
theorem dX8_readsLodger_64 : decode cX8_readsLodger 64 = .ok (.getfield 136, 3) := by decide +kernel
theorem dX8_readsLodger_67 : decode cX8_readsLodger 67 = .ok (.isub, 1) := by decide +kernel
theorem dX8_readsLodger_68 : decode cX8_readsLodger 68 = .ok (.istore_n 2, 1) := by decide +kernel
theorem dX8_readsLodger_69 : decode cX8_readsLodger 69 = .ok (.aload_n 0, 1) := by decide +kernel
theorem dX8_readsLodger_70 : decode cX8_readsLodger 70 = .ok (.invokevirtual 166, 3) := by decide +kernel
theorem dX8_readsLodger_73 : decode cX8_readsLodger 73 = .ok (.aload_n 0, 1) := by decide +kernel
theorem dX8_readsLodger_74 : decode cX8_readsLodger 74 = .ok (.iconst 0, 1) := by decide +kernel
theorem dX8_readsLodger_75 : decode cX8_readsLodger 75 = .ok (.iconst 4, 1) := by decide +kernel
theorem dX8_readsLodger_76 : decode cX8_readsLodger 76 = .ok (.invokevirtual 163, 3) := by decide +kernel
theorem dX8_readsLodger_79 : decode cX8_readsLodger 79 = .ok (.istore_n 3, 1) := by decide +kernel
theorem dX8_readsLodger_80 : decode cX8_readsLodger 80 = .ok (.aload_n 0, 1) := by decide +kernel
theorem dX8_readsLodger_81 : decode cX8_readsLodger 81 = .ok (.getfield 151, 3) := by decide +kernel
theorem dX8_readsLodger_84 : decode cX8_readsLodger 84 = .ok (.ifCond .ne 19, 3) := by decide +kernel
theorem dX8_readsLodger_87 : decode cX8_readsLodger 87 = .ok (.aload_n 0, 1) := by decide +kernel
theorem dX8_readsLodger_88 : decode cX8_readsLodger 88 = .ok (.iload_n 3, 1) := by decide +kernel
theorem dX8_readsLodger_89 : decode cX8_readsLodger 89 = .ok (.iconst (-1), 1) := by decide +kernel
theorem dX8_readsLodger_90 : decode cX8_readsLodger 90 = .ok (.invokevirtual 80, 3) := by decide +kernel
theorem dX8_readsLodger_93 : decode cX8_readsLodger 93 = .ok (.iconst 4, 1) := by decide +kernel
theorem dX8_readsLodger_94 : decode cX8_readsLodger 94 = .ok (.if_icmp .ne 9, 3) := by decide +kernel
theorem dX8_readsLodger_97 : decode cX8_readsLodger 97 = .ok (.aload_n 0, 1) := by decide +kernel
theorem dX8_readsLodger_98 : decode cX8_readsLodger 98 = .ok (.bipush 6, 2) := by decide +kernel
theorem dX8_readsLodger_100 : decode cX8_readsLodger 100 = .ok (.invokevirtual 160, 3) := by decide +kernel
theorem dX8_readsLodger_103 : decode cX8_readsLodger 103 = .ok (.aload_n 0, 1) := by decide +kernel
theorem dX8_readsLodger_104 : decode cX8_readsLodger 104 = .ok (.invokevirtual 166, 3) := by decide +kernel
theorem dX8_readsLodger_107 : decode cX8_readsLodger 107 = .ok (.aload_n 0, 1) := by decide +kernel
theorem dX8_readsLodger_108 : decode cX8_readsLodger 108 = .ok (.iconst 0, 1) := by decide +kernel
theorem dX8_readsLodger_109 : decode cX8_readsLodger 109 = .ok (.sipush 999, 3) := by decide +kernel
theorem dX8_readsLodger_112 : decode cX8_readsLodger 112 = .ok (.invokevirtual 172, 3) := by decide +kernel
theorem dX8_readsLodger_115 : decode cX8_readsLodger 115 = .ok (.istore 4, 2) := by decide +kernel
theorem dX8_readsLodger_117 : decode cX8_readsLodger 117 = .ok (.aload_n 0, 1) := by decide +kernel
theorem dX8_readsLodger_118 : decode cX8_readsLodger 118 = .ok (.invokevirtual 181, 3) := by decide +kernel
theorem dX8_readsLodger_121 : decode cX8_readsLodger 121 = .ok (.istore 5, 2) := by decide +kernel
theorem dX8_readsLodger_123 : decode cX8_readsLodger 123 = .ok (.aload_n 0, 1) := by decide +kernel
theorem dX8_readsLodger_124 : decode cX8_readsLodger 124 = .ok (.getfield 151, 3) := by decide +kernel
theorem dX8_readsLodger_127 : decode cX8_readsLodger 127 = .ok (.ifCond .ne 59, 3) := by decide +kernel
theorem dX8_readsLodger_130 : decode cX8_readsLodger 130 = .ok (.aload_n 0, 1) := by decide +kernel
theorem dX8_readsLodger_131 : decode cX8_readsLodger 131 = .ok (.iload_n 3, 1) := by decide +kernel
theorem dX8_readsLodger_132 : decode cX8_readsLodger 132 = .ok (.iload 4, 2) := by decide +kernel
theorem dX8_readsLodger_134 : decode cX8_readsLodger 134 = .ok (.iload 5, 2) := by decide +kernel
theorem dX8_readsLodger_136 : decode cX8_readsLodger 136 = .ok (.invokevirtual 52, 3) := by decide +kernel
theorem dX8_readsLodger_139 : decode cX8_readsLodger 139 = .ok (.iconst 0, 1) := by decide +kernel
theorem dX8_readsLodger_140 : decode cX8_readsLodger 140 = .ok (.istore 6, 2) := by decide +kernel
theorem dX8_readsLodger_142 : decode cX8_readsLodger 142 = .ok (.iload 6, 2) := by decide +kernel
theorem dX8_readsLodger_144 : decode cX8_readsLodger 144 = .ok (.iload_n 2, 1) := by decide +kernel
theorem dX8_readsLodger_145 : decode cX8_readsLodger 145 = .ok (.if_icmp .ge 41, 3) := by decide +kernel
theorem dX8_readsLodger_148 : decode cX8_readsLodger 148 = .ok (.aload_n 0, 1) := by decide +kernel
theorem dX8_readsLodger_149 : decode cX8_readsLodger 149 = .ok (.getfield 19, 3) := by decide +kernel
theorem dX8_readsLodger_152 : decode cX8_readsLodger 152 = .ok (.aload_n 0, 1) := by decide +kernel
theorem dX8_readsLodger_153 : decode cX8_readsLodger 153 = .ok (.getfield 19, 3) := by decide +kernel
theorem dX8_readsLodger_156 : decode cX8_readsLodger 156 = .ok (.bipush 7, 2) := by decide +kernel
theorem dX8_readsLodger_158 : decode cX8_readsLodger 158 = .ok (.iaload, 1) := by decide +kernel
theorem dX8_readsLodger_159 : decode cX8_readsLodger 159 = .ok (.iconst 1, 1) := by decide +kernel
theorem dX8_readsLodger_160 : decode cX8_readsLodger 160 = .ok (.isub, 1) := by decide +kernel
theorem dX8_readsLodger_161 : decode cX8_readsLodger 161 = .ok (.invokestatic 56, 3) := by decide +kernel
theorem dX8_readsLodger_164 : decode cX8_readsLodger 164 = .ok (.bipush 10, 2) := by decide +kernel
theorem dX8_readsLodger_166 : decode cX8_readsLodger 166 = .ok (.iadd, 1) := by decide +kernel
theorem dX8_readsLodger_167 : decode cX8_readsLodger 167 = .ok (.iload 6, 2) := by decide +kernel
theorem dX8_readsLodger_169 : decode cX8_readsLodger 169 = .ok (.iadd, 1) := by decide +kernel
theorem dX8_readsLodger_170 : decode cX8_readsLodger 170 = .ok (.aload_n 0, 1) := by decide +kernel
theorem dX8_readsLodger_171 : decode cX8_readsLodger 171 = .ok (.getfield 41, 3) := by decide +kernel
theorem dX8_readsLodger_174 : decode cX8_readsLodger 174 = .ok (.iload_n 1, 1) := by decide +kernel
theorem dX8_readsLodger_175 : decode cX8_readsLodger 175 = .ok (.iload 6, 2) := by decide +kernel
theorem dX8_readsLodger_177 : decode cX8_readsLodger 177 = .ok (.iadd, 1) := by decide +kernel
theorem dX8_readsLodger_178 : decode cX8_readsLodger 178 = .ok (.baload, 1) := by decide +kernel
theorem dX8_readsLodger_179 : decode cX8_readsLodger 179 = .ok (.iastore, 1) := by decide +kernel
theorem dX8_readsLodger_180 : decode cX8_readsLodger 180 = .ok (.iinc 6 1, 3) := by decide +kernel
theorem dX8_readsLodger_183 : decode cX8_readsLodger 183 = .ok (.goto (-41), 3) := by decide +kernel
theorem dX8_readsLodger_186 : decode cX8_readsLodger 186 = .ok (.return_, 1) := by decide +kernel
theorem dX8_takesLodger_0 : decode cX8_takesLodger 0 = .ok (.aload_n 0, 1) := by decide +kernel
theorem dX8_takesLodger_1 : decode cX8_takesLodger 1 = .ok (.invokevirtual 175, 3) := by decide +kernel
theorem dX8_takesLodger_4 : decode cX8_takesLodger 4 = .ok (.aload_n 0, 1) := by decide +kernel
theorem dX8_takesLodger_5 : decode cX8_takesLodger 5 = .ok (.getfield 151, 3) := by decide +kernel
theorem dX8_takesLodger_8 : decode cX8_takesLodger 8 = .ok (.ifCond .ne 18, 3) := by decide +kernel
theorem dX8_takesLodger_11 : decode cX8_takesLodger 11 = .ok (.aload_n 0, 1) := by decide +kernel
theorem dX8_takesLodger_12 : decode cX8_takesLodger 12 = .ok (.aload_n 0, 1) := by decide +kernel
theorem dX8_takesLodger_13 : decode cX8_takesLodger 13 = .ok (.getfield 136, 3) := by decide +kernel
theorem dX8_takesLodger_16 : decode cX8_takesLodger 16 = .ok (.aload_n 0, 1) := by decide +kernel
theorem dX8_takesLodger_17 : decode cX8_takesLodger 17 = .ok (.getfield 133, 3) := by decide +kernel
theorem dX8_takesLodger_20 : decode cX8_takesLodger 20 = .ok (.invokevirtual 178, 3) := by decide +kernel
theorem dX8_takesLodger_23 : decode cX8_takesLodger 23 = .ok (.goto 4, 3) := by decide +kernel
theorem dX8_takesLodger_26 : decode cX8_takesLodger 26 = .ok (.iconst 0, 1) := by decide +kernel
theorem dX8_takesLodger_27 : decode cX8_takesLodger 27 = .ok (.istore_n 1, 1) := by decide +kernel
theorem dX8_takesLodger_28 : decode cX8_takesLodger 28 = .ok (.iload_n 1, 1) := by decide +kernel
theorem dX8_takesLodger_29 : decode cX8_takesLodger 29 = .ok (.iconst (-1), 1) := by decide +kernel
theorem dX8_takesLodger_30 : decode cX8_takesLodger 30 = .ok (.if_icmp .ne 8, 3) := by decide +kernel
theorem dX8_takesLodger_33 : decode cX8_takesLodger 33 = .ok (.aload_n 0, 1) := by decide +kernel
theorem dX8_takesLodger_34 : decode cX8_takesLodger 34 = .ok (.iconst 3, 1) := by decide +kernel
theorem dX8_takesLodger_35 : decode cX8_takesLodger 35 = .ok (.invokevirtual 160, 3) := by decide +kernel
theorem dX8_takesLodger_38 : decode cX8_takesLodger 38 = .ok (.aload_n 0, 1) := by decide +kernel
theorem dX8_takesLodger_39 : decode cX8_takesLodger 39 = .ok (.invokevirtual 166, 3) := by decide +kernel
theorem dX8_takesLodger_42 : decode cX8_takesLodger 42 = .ok (.aload_n 0, 1) := by decide +kernel
theorem dX8_takesLodger_43 : decode cX8_takesLodger 43 = .ok (.getfield 151, 3) := by decide +kernel
theorem dX8_takesLodger_46 : decode cX8_takesLodger 46 = .ok (.ifCond .ne 7, 3) := by decide +kernel
theorem dX8_takesLodger_49 : decode cX8_takesLodger 49 = .ok (.iload_n 1, 1) := by decide +kernel
theorem dX8_takesLodger_50 : decode cX8_takesLodger 50 = .ok (.goto 4, 3) := by decide +kernel
theorem dX8_takesLodger_53 : decode cX8_takesLodger 53 = .ok (.iconst 0, 1) := by decide +kernel
theorem dX8_takesLodger_54 : decode cX8_takesLodger 54 = .ok (.ireturn, 1) := by decide +kernel
theorem dX8_pays_0 : decode cX8_pays 0 = .ok (.aload_n 0, 1) := by decide +kernel
theorem dX8_pays_1 : decode cX8_pays 1 = .ok (.getfield 19, 3) := by decide +kernel
theorem dX8_pays_4 : decode cX8_pays 4 = .ok (.iload_n 1, 1) := by decide +kernel
theorem dX8_pays_5 : decode cX8_pays 5 = .ok (.invokestatic 56, 3) := by decide +kernel
theorem dX8_pays_8 : decode cX8_pays 8 = .ok (.iconst 1, 1) := by decide +kernel
theorem dX8_pays_9 : decode cX8_pays 9 = .ok (.iadd, 1) := by decide +kernel
theorem dX8_pays_10 : decode cX8_pays 10 = .ok (.dup2, 1) := by decide +kernel
theorem dX8_pays_11 : decode cX8_pays 11 = .ok (.iaload, 1) := by decide +kernel
theorem dX8_pays_12 : decode cX8_pays 12 = .ok (.iload_n 2, 1) := by decide +kernel
theorem dX8_pays_13 : decode cX8_pays 13 = .ok (.iadd, 1) := by decide +kernel
theorem dX8_pays_14 : decode cX8_pays 14 = .ok (.iastore, 1) := by decide +kernel
theorem dX8_pays_15 : decode cX8_pays 15 = .ok (.aload_n 0, 1) := by decide +kernel
theorem dX8_pays_16 : decode cX8_pays 16 = .ok (.getfield 19, 3) := by decide +kernel
theorem dX8_pays_19 : decode cX8_pays 19 = .ok (.bipush 10, 2) := by decide +kernel
theorem dX8_pays_21 : decode cX8_pays 21 = .ok (.dup2, 1) := by decide +kernel
theorem dX8_pays_22 : decode cX8_pays 22 = .ok (.iaload, 1) := by decide +kernel
theorem dX8_pays_23 : decode cX8_pays 23 = .ok (.iload_n 2, 1) := by decide +kernel
theorem dX8_pays_24 : decode cX8_pays 24 = .ok (.iadd, 1) := by decide +kernel
theorem dX8_pays_25 : decode cX8_pays 25 = .ok (.iastore, 1) := by decide +kernel
theorem dX8_pays_26 : decode cX8_pays 26 = .ok (.return_, 1) := by decide +kernel
theorem dX8_readsPay_0 : decode cX8_readsPay 0 = .ok (.aload_n 0, 1) := by decide +kernel
theorem dX8_readsPay_1 : decode cX8_readsPay 1 = .ok (.invokevirtual 157, 3) := by decide +kernel
theorem dX8_readsPay_4 : decode cX8_readsPay 4 = .ok (.aload_n 0, 1) := by decide +kernel
theorem dX8_readsPay_5 : decode cX8_readsPay 5 = .ok (.invokevirtual 185, 3) := by decide +kernel
theorem dX8_readsPay_8 : decode cX8_readsPay 8 = .ok (.istore_n 1, 1) := by decide +kernel
theorem dX8_readsPay_9 : decode cX8_readsPay 9 = .ok (.aload_n 0, 1) := by decide +kernel
theorem dX8_readsPay_10 : decode cX8_readsPay 10 = .ok (.iconst 1, 1) := by decide +kernel
theorem dX8_readsPay_11 : decode cX8_readsPay 11 = .ok (.sipush 999, 3) := by decide +kernel
theorem dX8_readsPay_14 : decode cX8_readsPay 14 = .ok (.invokevirtual 172, 3) := by decide +kernel
theorem dX8_readsPay_17 : decode cX8_readsPay 17 = .ok (.istore_n 2, 1) := by decide +kernel
theorem dX8_readsPay_18 : decode cX8_readsPay 18 = .ok (.aload_n 0, 1) := by decide +kernel
theorem dX8_readsPay_19 : decode cX8_readsPay 19 = .ok (.getfield 151, 3) := by decide +kernel
theorem dX8_readsPay_22 : decode cX8_readsPay 22 = .ok (.ifCond .ne 9, 3) := by decide +kernel
theorem dX8_readsPay_25 : decode cX8_readsPay 25 = .ok (.aload_n 0, 1) := by decide +kernel
theorem dX8_readsPay_26 : decode cX8_readsPay 26 = .ok (.iload_n 1, 1) := by decide +kernel
theorem dX8_readsPay_27 : decode cX8_readsPay 27 = .ok (.iload_n 2, 1) := by decide +kernel
theorem dX8_readsPay_28 : decode cX8_readsPay 28 = .ok (.invokevirtual 188, 3) := by decide +kernel
theorem dX8_readsPay_31 : decode cX8_readsPay 31 = .ok (.return_, 1) := by decide +kernel
theorem dX8_readsMove_0 : decode cX8_readsMove 0 = .ok (.aload_n 0, 1) := by decide +kernel
theorem dX8_readsMove_1 : decode cX8_readsMove 1 = .ok (.invokevirtual 157, 3) := by decide +kernel
theorem dX8_readsMove_4 : decode cX8_readsMove 4 = .ok (.aload_n 0, 1) := by decide +kernel
theorem dX8_readsMove_5 : decode cX8_readsMove 5 = .ok (.invokevirtual 185, 3) := by decide +kernel
theorem dX8_readsMove_8 : decode cX8_readsMove 8 = .ok (.istore_n 1, 1) := by decide +kernel
theorem dX8_readsMove_9 : decode cX8_readsMove 9 = .ok (.aload_n 0, 1) := by decide +kernel
theorem dX8_readsMove_10 : decode cX8_readsMove 10 = .ok (.iconst 0, 1) := by decide +kernel
theorem dX8_readsMove_11 : decode cX8_readsMove 11 = .ok (.iconst 4, 1) := by decide +kernel
theorem dX8_readsMove_12 : decode cX8_readsMove 12 = .ok (.invokevirtual 163, 3) := by decide +kernel
theorem dX8_readsMove_15 : decode cX8_readsMove 15 = .ok (.istore_n 2, 1) := by decide +kernel
theorem dX8_readsMove_16 : decode cX8_readsMove 16 = .ok (.aload_n 0, 1) := by decide +kernel
theorem dX8_readsMove_17 : decode cX8_readsMove 17 = .ok (.getfield 151, 3) := by decide +kernel
theorem dX8_readsMove_20 : decode cX8_readsMove 20 = .ok (.ifCond .ne 19, 3) := by decide +kernel
theorem dX8_readsMove_23 : decode cX8_readsMove 23 = .ok (.aload_n 0, 1) := by decide +kernel
theorem dX8_readsMove_24 : decode cX8_readsMove 24 = .ok (.iload_n 2, 1) := by decide +kernel
theorem dX8_readsMove_25 : decode cX8_readsMove 25 = .ok (.iload_n 1, 1) := by decide +kernel
theorem dX8_readsMove_26 : decode cX8_readsMove 26 = .ok (.invokevirtual 80, 3) := by decide +kernel
theorem dX8_readsMove_29 : decode cX8_readsMove 29 = .ok (.iconst 4, 1) := by decide +kernel
theorem dX8_readsMove_30 : decode cX8_readsMove 30 = .ok (.if_icmp .ne 9, 3) := by decide +kernel
theorem dX8_readsMove_33 : decode cX8_readsMove 33 = .ok (.aload_n 0, 1) := by decide +kernel
theorem dX8_readsMove_34 : decode cX8_readsMove 34 = .ok (.bipush 6, 2) := by decide +kernel
theorem dX8_readsMove_36 : decode cX8_readsMove 36 = .ok (.invokevirtual 160, 3) := by decide +kernel
theorem dX8_readsMove_39 : decode cX8_readsMove 39 = .ok (.aload_n 0, 1) := by decide +kernel
theorem dX8_readsMove_40 : decode cX8_readsMove 40 = .ok (.invokevirtual 166, 3) := by decide +kernel
theorem dX8_readsMove_43 : decode cX8_readsMove 43 = .ok (.aload_n 0, 1) := by decide +kernel
theorem dX8_readsMove_44 : decode cX8_readsMove 44 = .ok (.getfield 151, 3) := by decide +kernel
theorem dX8_readsMove_47 : decode cX8_readsMove 47 = .ok (.ifCond .ne 15, 3) := by decide +kernel
theorem dX8_readsMove_50 : decode cX8_readsMove 50 = .ok (.aload_n 0, 1) := by decide +kernel
theorem dX8_readsMove_51 : decode cX8_readsMove 51 = .ok (.getfield 19, 3) := by decide +kernel
theorem dX8_readsMove_54 : decode cX8_readsMove 54 = .ok (.iload_n 1, 1) := by decide +kernel
theorem dX8_readsMove_55 : decode cX8_readsMove 55 = .ok (.invokestatic 56, 3) := by decide +kernel
theorem dX8_readsMove_58 : decode cX8_readsMove 58 = .ok (.iconst 0, 1) := by decide +kernel
theorem dX8_readsMove_59 : decode cX8_readsMove 59 = .ok (.iadd, 1) := by decide +kernel
theorem dX8_readsMove_60 : decode cX8_readsMove 60 = .ok (.iload_n 2, 1) := by decide +kernel
theorem dX8_readsMove_61 : decode cX8_readsMove 61 = .ok (.iastore, 1) := by decide +kernel
theorem dX8_readsMove_62 : decode cX8_readsMove 62 = .ok (.return_, 1) := by decide +kernel
theorem dX8_readsLine_0 : decode cX8_readsLine 0 = .ok (.aload_n 0, 1) := by decide +kernel
theorem dX8_readsLine_1 : decode cX8_readsLine 1 = .ok (.iconst 2, 1) := by decide +kernel
theorem dX8_readsLine_2 : decode cX8_readsLine 2 = .ok (.invokevirtual 169, 3) := by decide +kernel
theorem dX8_readsLine_5 : decode cX8_readsLine 5 = .ok (.ifCond .eq 10, 3) := by decide +kernel
theorem dX8_readsLine_8 : decode cX8_readsLine 8 = .ok (.aload_n 0, 1) := by decide +kernel
theorem dX8_readsLine_9 : decode cX8_readsLine 9 = .ok (.invokevirtual 192, 3) := by decide +kernel
theorem dX8_readsLine_12 : decode cX8_readsLine 12 = .ok (.goto 77, 3) := by decide +kernel
theorem dX8_readsLine_15 : decode cX8_readsLine 15 = .ok (.aload_n 0, 1) := by decide +kernel
theorem dX8_readsLine_16 : decode cX8_readsLine 16 = .ok (.iconst 3, 1) := by decide +kernel
theorem dX8_readsLine_17 : decode cX8_readsLine 17 = .ok (.invokevirtual 169, 3) := by decide +kernel
theorem dX8_readsLine_20 : decode cX8_readsLine 20 = .ok (.ifCond .eq 10, 3) := by decide +kernel
theorem dX8_readsLine_23 : decode cX8_readsLine 23 = .ok (.aload_n 0, 1) := by decide +kernel
theorem dX8_readsLine_24 : decode cX8_readsLine 24 = .ok (.invokevirtual 195, 3) := by decide +kernel
theorem dX8_readsLine_27 : decode cX8_readsLine 27 = .ok (.goto 62, 3) := by decide +kernel
theorem dX8_readsLine_30 : decode cX8_readsLine 30 = .ok (.aload_n 0, 1) := by decide +kernel
theorem dX8_readsLine_31 : decode cX8_readsLine 31 = .ok (.iconst 4, 1) := by decide +kernel
theorem dX8_readsLine_32 : decode cX8_readsLine 32 = .ok (.invokevirtual 169, 3) := by decide +kernel
theorem dX8_readsLine_35 : decode cX8_readsLine 35 = .ok (.ifCond .eq 10, 3) := by decide +kernel
theorem dX8_readsLine_38 : decode cX8_readsLine 38 = .ok (.aload_n 0, 1) := by decide +kernel
theorem dX8_readsLine_39 : decode cX8_readsLine 39 = .ok (.invokevirtual 198, 3) := by decide +kernel
theorem dX8_readsLine_42 : decode cX8_readsLine 42 = .ok (.goto 47, 3) := by decide +kernel
theorem dX8_readsLine_45 : decode cX8_readsLine 45 = .ok (.aload_n 0, 1) := by decide +kernel
theorem dX8_readsLine_46 : decode cX8_readsLine 46 = .ok (.iconst 5, 1) := by decide +kernel
theorem dX8_readsLine_47 : decode cX8_readsLine 47 = .ok (.invokevirtual 169, 3) := by decide +kernel
theorem dX8_readsLine_50 : decode cX8_readsLine 50 = .ok (.ifCond .eq 34, 3) := by decide +kernel
theorem dX8_readsLine_53 : decode cX8_readsLine 53 = .ok (.aload_n 0, 1) := by decide +kernel
theorem dX8_readsLine_54 : decode cX8_readsLine 54 = .ok (.invokevirtual 157, 3) := by decide +kernel
theorem dX8_readsLine_57 : decode cX8_readsLine 57 = .ok (.aload_n 0, 1) := by decide +kernel
theorem dX8_readsLine_58 : decode cX8_readsLine 58 = .ok (.iconst 1, 1) := by decide +kernel
theorem dX8_readsLine_59 : decode cX8_readsLine 59 = .ok (.bipush 100, 2) := by decide +kernel
theorem dX8_readsLine_61 : decode cX8_readsLine 61 = .ok (.invokevirtual 172, 3) := by decide +kernel
theorem dX8_readsLine_64 : decode cX8_readsLine 64 = .ok (.istore_n 1, 1) := by decide +kernel
theorem dX8_readsLine_65 : decode cX8_readsLine 65 = .ok (.aload_n 0, 1) := by decide +kernel
theorem dX8_readsLine_66 : decode cX8_readsLine 66 = .ok (.aload_n 0, 1) := by decide +kernel
theorem dX8_readsLine_67 : decode cX8_readsLine 67 = .ok (.getfield 151, 3) := by decide +kernel
theorem dX8_readsLine_70 : decode cX8_readsLine 70 = .ok (.ifCond .ne 7, 3) := by decide +kernel
theorem dX8_readsLine_73 : decode cX8_readsLine 73 = .ok (.iload_n 1, 1) := by decide +kernel
theorem dX8_readsLine_74 : decode cX8_readsLine 74 = .ok (.goto 4, 3) := by decide +kernel
theorem dX8_readsLine_77 : decode cX8_readsLine 77 = .ok (.iconst 0, 1) := by decide +kernel
theorem dX8_readsLine_78 : decode cX8_readsLine 78 = .ok (.invokevirtual 201, 3) := by decide +kernel
theorem dX8_readsLine_81 : decode cX8_readsLine 81 = .ok (.goto 8, 3) := by decide +kernel
theorem dX8_readsLine_84 : decode cX8_readsLine 84 = .ok (.aload_n 0, 1) := by decide +kernel
theorem dX8_readsLine_85 : decode cX8_readsLine 85 = .ok (.iconst 1, 1) := by decide +kernel
theorem dX8_readsLine_86 : decode cX8_readsLine 86 = .ok (.invokevirtual 160, 3) := by decide +kernel
theorem dX8_readsLine_89 : decode cX8_readsLine 89 = .ok (.return_, 1) := by decide +kernel
theorem dX8_takesSemicolon_0 : decode cX8_takesSemicolon 0 = .ok (.aload_n 0, 1) := by decide +kernel
theorem dX8_takesSemicolon_1 : decode cX8_takesSemicolon 1 = .ok (.getfield 151, 3) := by decide +kernel
theorem dX8_takesSemicolon_4 : decode cX8_takesSemicolon 4 = .ok (.ifCond .ne 16, 3) := by decide +kernel
theorem dX8_takesSemicolon_7 : decode cX8_takesSemicolon 7 = .ok (.aload_n 0, 1) := by decide +kernel
theorem dX8_takesSemicolon_8 : decode cX8_takesSemicolon 8 = .ok (.getfield 130, 3) := by decide +kernel
theorem dX8_takesSemicolon_11 : decode cX8_takesSemicolon 11 = .ok (.iconst 3, 1) := by decide +kernel
theorem dX8_takesSemicolon_12 : decode cX8_takesSemicolon 12 = .ok (.if_icmp .eq 8, 3) := by decide +kernel
theorem dX8_takesSemicolon_15 : decode cX8_takesSemicolon 15 = .ok (.aload_n 0, 1) := by decide +kernel
theorem dX8_takesSemicolon_16 : decode cX8_takesSemicolon 16 = .ok (.iconst 1, 1) := by decide +kernel
theorem dX8_takesSemicolon_17 : decode cX8_takesSemicolon 17 = .ok (.invokevirtual 160, 3) := by decide +kernel
theorem dX8_takesSemicolon_20 : decode cX8_takesSemicolon 20 = .ok (.aload_n 0, 1) := by decide +kernel
theorem dX8_takesSemicolon_21 : decode cX8_takesSemicolon 21 = .ok (.invokevirtual 166, 3) := by decide +kernel
theorem dX8_takesSemicolon_24 : decode cX8_takesSemicolon 24 = .ok (.return_, 1) := by decide +kernel
theorem dX8_readsText_0 : decode cX8_readsText 0 = .ok (.iconst 0, 1) := by decide +kernel
theorem dX8_readsText_1 : decode cX8_readsText 1 = .ok (.istore_n 2, 1) := by decide +kernel
theorem dX8_readsText_2 : decode cX8_readsText 2 = .ok (.iload_n 2, 1) := by decide +kernel
theorem dX8_readsText_3 : decode cX8_readsText 3 = .ok (.sipush 205, 3) := by decide +kernel
theorem dX8_readsText_6 : decode cX8_readsText 6 = .ok (.if_icmp .ge 16, 3) := by decide +kernel
theorem dX8_readsText_9 : decode cX8_readsText 9 = .ok (.aload_n 0, 1) := by decide +kernel
theorem dX8_readsText_10 : decode cX8_readsText 10 = .ok (.getfield 19, 3) := by decide +kernel
theorem dX8_readsText_13 : decode cX8_readsText 13 = .ok (.iload_n 2, 1) := by decide +kernel
theorem dX8_readsText_14 : decode cX8_readsText 14 = .ok (.iconst 0, 1) := by decide +kernel
theorem dX8_readsText_15 : decode cX8_readsText 15 = .ok (.iastore, 1) := by decide +kernel
theorem dX8_readsText_16 : decode cX8_readsText 16 = .ok (.iinc 2 1, 3) := by decide +kernel
theorem dX8_readsText_19 : decode cX8_readsText 19 = .ok (.goto (-17), 3) := by decide +kernel
theorem dX8_readsText_22 : decode cX8_readsText 22 = .ok (.aload_n 0, 1) := by decide +kernel
theorem dX8_readsText_23 : decode cX8_readsText 23 = .ok (.iload_n 1, 1) := by decide +kernel
theorem dX8_readsText_24 : decode cX8_readsText 24 = .ok (.putfield 139, 3) := by decide +kernel
theorem dX8_readsText_27 : decode cX8_readsText 27 = .ok (.aload_n 0, 1) := by decide +kernel
theorem dX8_readsText_28 : decode cX8_readsText 28 = .ok (.iconst 0, 1) := by decide +kernel
theorem dX8_readsText_29 : decode cX8_readsText 29 = .ok (.putfield 151, 3) := by decide +kernel
theorem dX8_readsText_32 : decode cX8_readsText 32 = .ok (.aload_n 0, 1) := by decide +kernel
theorem dX8_readsText_33 : decode cX8_readsText 33 = .ok (.iconst 0, 1) := by decide +kernel
theorem dX8_readsText_34 : decode cX8_readsText 34 = .ok (.putfield 130, 3) := by decide +kernel
theorem dX8_readsText_37 : decode cX8_readsText 37 = .ok (.aload_n 0, 1) := by decide +kernel
theorem dX8_readsText_38 : decode cX8_readsText 38 = .ok (.iconst 0, 1) := by decide +kernel
theorem dX8_readsText_39 : decode cX8_readsText 39 = .ok (.putfield 133, 3) := by decide +kernel
theorem dX8_readsText_42 : decode cX8_readsText 42 = .ok (.aload_n 0, 1) := by decide +kernel
theorem dX8_readsText_43 : decode cX8_readsText 43 = .ok (.invokevirtual 157, 3) := by decide +kernel
theorem dX8_readsText_46 : decode cX8_readsText 46 = .ok (.aload_n 0, 1) := by decide +kernel
theorem dX8_readsText_47 : decode cX8_readsText 47 = .ok (.iconst 0, 1) := by decide +kernel
theorem dX8_readsText_48 : decode cX8_readsText 48 = .ok (.invokevirtual 204, 3) := by decide +kernel
theorem dX8_readsText_51 : decode cX8_readsText 51 = .ok (.aload_n 0, 1) := by decide +kernel
theorem dX8_readsText_52 : decode cX8_readsText 52 = .ok (.getfield 19, 3) := by decide +kernel
theorem dX8_readsText_55 : decode cX8_readsText 55 = .ok (.iconst 0, 1) := by decide +kernel
theorem dX8_readsText_56 : decode cX8_readsText 56 = .ok (.aload_n 0, 1) := by decide +kernel
theorem dX8_readsText_57 : decode cX8_readsText 57 = .ok (.iconst 0, 1) := by decide +kernel
theorem dX8_readsText_58 : decode cX8_readsText 58 = .ok (.bipush 50, 2) := by decide +kernel
theorem dX8_readsText_60 : decode cX8_readsText 60 = .ok (.invokevirtual 172, 3) := by decide +kernel
theorem dX8_readsText_63 : decode cX8_readsText 63 = .ok (.iastore, 1) := by decide +kernel
theorem dX8_readsText_64 : decode cX8_readsText 64 = .ok (.aload_n 0, 1) := by decide +kernel
theorem dX8_readsText_65 : decode cX8_readsText 65 = .ok (.getfield 19, 3) := by decide +kernel
theorem dX8_readsText_68 : decode cX8_readsText 68 = .ok (.iconst 1, 1) := by decide +kernel
theorem dX8_readsText_69 : decode cX8_readsText 69 = .ok (.aload_n 0, 1) := by decide +kernel
theorem dX8_readsText_70 : decode cX8_readsText 70 = .ok (.iconst 0, 1) := by decide +kernel
theorem dX8_readsText_71 : decode cX8_readsText 71 = .ok (.bipush 45, 2) := by decide +kernel
theorem dX8_readsText_73 : decode cX8_readsText 73 = .ok (.invokevirtual 172, 3) := by decide +kernel
theorem dX8_readsText_76 : decode cX8_readsText 76 = .ok (.iastore, 1) := by decide +kernel
theorem dX8_readsText_77 : decode cX8_readsText 77 = .ok (.aload_n 0, 1) := by decide +kernel
theorem dX8_readsText_78 : decode cX8_readsText 78 = .ok (.invokevirtual 207, 3) := by decide +kernel
theorem dX8_readsText_81 : decode cX8_readsText 81 = .ok (.aload_n 0, 1) := by decide +kernel
theorem dX8_readsText_82 : decode cX8_readsText 82 = .ok (.iconst 1, 1) := by decide +kernel
theorem dX8_readsText_83 : decode cX8_readsText 83 = .ok (.invokevirtual 204, 3) := by decide +kernel
theorem dX8_readsText_86 : decode cX8_readsText 86 = .ok (.iconst 0, 1) := by decide +kernel
theorem dX8_readsText_87 : decode cX8_readsText 87 = .ok (.istore_n 2, 1) := by decide +kernel
theorem dX8_readsText_88 : decode cX8_readsText 88 = .ok (.iload_n 2, 1) := by decide +kernel
theorem dX8_readsText_89 : decode cX8_readsText 89 = .ok (.iconst 5, 1) := by decide +kernel
theorem dX8_readsText_90 : decode cX8_readsText 90 = .ok (.if_icmp .ge 24, 3) := by decide +kernel
theorem dX8_readsText_93 : decode cX8_readsText 93 = .ok (.aload_n 0, 1) := by decide +kernel
theorem dX8_readsText_94 : decode cX8_readsText 94 = .ok (.getfield 19, 3) := by decide +kernel
theorem dX8_readsText_97 : decode cX8_readsText 97 = .ok (.iconst 2, 1) := by decide +kernel
theorem dX8_readsText_98 : decode cX8_readsText 98 = .ok (.iload_n 2, 1) := by decide +kernel
theorem dX8_readsText_99 : decode cX8_readsText 99 = .ok (.iadd, 1) := by decide +kernel
theorem dX8_readsText_100 : decode cX8_readsText 100 = .ok (.aload_n 0, 1) := by decide +kernel
theorem dX8_readsText_101 : decode cX8_readsText 101 = .ok (.iconst 0, 1) := by decide +kernel
theorem dX8_readsText_102 : decode cX8_readsText 102 = .ok (.bipush 9, 2) := by decide +kernel
theorem dX8_readsText_104 : decode cX8_readsText 104 = .ok (.invokevirtual 172, 3) := by decide +kernel
theorem dX8_readsText_107 : decode cX8_readsText 107 = .ok (.iastore, 1) := by decide +kernel
theorem dX8_readsText_108 : decode cX8_readsText 108 = .ok (.iinc 2 1, 3) := by decide +kernel
theorem dX8_readsText_111 : decode cX8_readsText 111 = .ok (.goto (-23), 3) := by decide +kernel
theorem dX8_readsText_114 : decode cX8_readsText 114 = .ok (.aload_n 0, 1) := by decide +kernel
theorem dX8_readsText_115 : decode cX8_readsText 115 = .ok (.getfield 151, 3) := by decide +kernel
theorem dX8_readsText_118 : decode cX8_readsText 118 = .ok (.ifCond .ne 28, 3) := by decide +kernel
theorem dX8_readsText_121 : decode cX8_readsText 121 = .ok (.aload_n 0, 1) := by decide +kernel
theorem dX8_readsText_122 : decode cX8_readsText 122 = .ok (.getfield 130, 3) := by decide +kernel
theorem dX8_readsText_125 : decode cX8_readsText 125 = .ok (.ifCond .eq 21, 3) := by decide +kernel
theorem dX8_readsText_128 : decode cX8_readsText 128 = .ok (.aload_n 0, 1) := by decide +kernel
theorem dX8_readsText_129 : decode cX8_readsText 129 = .ok (.invokevirtual 207, 3) := by decide +kernel
theorem dX8_readsText_132 : decode cX8_readsText 132 = .ok (.aload_n 0, 1) := by decide +kernel
theorem dX8_readsText_133 : decode cX8_readsText 133 = .ok (.getfield 151, 3) := by decide +kernel
theorem dX8_readsText_136 : decode cX8_readsText 136 = .ok (.ifCond .ne (-22), 3) := by decide +kernel
theorem dX8_readsText_139 : decode cX8_readsText 139 = .ok (.aload_n 0, 1) := by decide +kernel
theorem dX8_readsText_140 : decode cX8_readsText 140 = .ok (.invokevirtual 210, 3) := by decide +kernel
theorem dX8_readsText_143 : decode cX8_readsText 143 = .ok (.goto (-29), 3) := by decide +kernel
theorem dX8_readsText_146 : decode cX8_readsText 146 = .ok (.return_, 1) := by decide +kernel
theorem dX8_feeds_0 : decode cX8_feeds 0 = .ok (.aload_n 0, 1) := by decide +kernel
theorem dX8_feeds_1 : decode cX8_feeds 1 = .ok (.getfield 41, 3) := by decide +kernel
theorem dX8_feeds_4 : decode cX8_feeds 4 = .ok (.aload_n 0, 1) := by decide +kernel
theorem dX8_feeds_5 : decode cX8_feeds 5 = .ok (.getfield 213, 3) := by decide +kernel
theorem dX8_feeds_8 : decode cX8_feeds 8 = .ok (.iload_n 1, 1) := by decide +kernel
theorem dX8_feeds_9 : decode cX8_feeds 9 = .ok (.bipush 24, 2) := by decide +kernel
theorem dX8_feeds_11 : decode cX8_feeds 11 = .ok (.ishr, 1) := by decide +kernel
theorem dX8_feeds_12 : decode cX8_feeds 12 = .ok (.i2b, 1) := by decide +kernel
theorem dX8_feeds_13 : decode cX8_feeds 13 = .ok (.bastore, 1) := by decide +kernel
theorem dX8_feeds_14 : decode cX8_feeds 14 = .ok (.aload_n 0, 1) := by decide +kernel
theorem dX8_feeds_15 : decode cX8_feeds 15 = .ok (.getfield 41, 3) := by decide +kernel
theorem dX8_feeds_18 : decode cX8_feeds 18 = .ok (.aload_n 0, 1) := by decide +kernel
theorem dX8_feeds_19 : decode cX8_feeds 19 = .ok (.getfield 213, 3) := by decide +kernel
theorem dX8_feeds_22 : decode cX8_feeds 22 = .ok (.iconst 1, 1) := by decide +kernel
theorem dX8_feeds_23 : decode cX8_feeds 23 = .ok (.iadd, 1) := by decide +kernel
theorem dX8_feeds_24 : decode cX8_feeds 24 = .ok (.iload_n 1, 1) := by decide +kernel
theorem dX8_feeds_25 : decode cX8_feeds 25 = .ok (.bipush 16, 2) := by decide +kernel
theorem dX8_feeds_27 : decode cX8_feeds 27 = .ok (.ishr, 1) := by decide +kernel
theorem dX8_feeds_28 : decode cX8_feeds 28 = .ok (.i2b, 1) := by decide +kernel
theorem dX8_feeds_29 : decode cX8_feeds 29 = .ok (.bastore, 1) := by decide +kernel
theorem dX8_feeds_30 : decode cX8_feeds 30 = .ok (.aload_n 0, 1) := by decide +kernel
theorem dX8_feeds_31 : decode cX8_feeds 31 = .ok (.getfield 41, 3) := by decide +kernel
theorem dX8_feeds_34 : decode cX8_feeds 34 = .ok (.aload_n 0, 1) := by decide +kernel
theorem dX8_feeds_35 : decode cX8_feeds 35 = .ok (.getfield 213, 3) := by decide +kernel
theorem dX8_feeds_38 : decode cX8_feeds 38 = .ok (.iconst 2, 1) := by decide +kernel
theorem dX8_feeds_39 : decode cX8_feeds 39 = .ok (.iadd, 1) := by decide +kernel
theorem dX8_feeds_40 : decode cX8_feeds 40 = .ok (.iload_n 1, 1) := by decide +kernel
theorem dX8_feeds_41 : decode cX8_feeds 41 = .ok (.bipush 8, 2) := by decide +kernel
theorem dX8_feeds_43 : decode cX8_feeds 43 = .ok (.ishr, 1) := by decide +kernel
theorem dX8_feeds_44 : decode cX8_feeds 44 = .ok (.i2b, 1) := by decide +kernel
theorem dX8_feeds_45 : decode cX8_feeds 45 = .ok (.bastore, 1) := by decide +kernel
theorem dX8_feeds_46 : decode cX8_feeds 46 = .ok (.aload_n 0, 1) := by decide +kernel
theorem dX8_feeds_47 : decode cX8_feeds 47 = .ok (.getfield 41, 3) := by decide +kernel
theorem dX8_feeds_50 : decode cX8_feeds 50 = .ok (.aload_n 0, 1) := by decide +kernel
theorem dX8_feeds_51 : decode cX8_feeds 51 = .ok (.getfield 213, 3) := by decide +kernel
theorem dX8_feeds_54 : decode cX8_feeds 54 = .ok (.iconst 3, 1) := by decide +kernel
theorem dX8_feeds_55 : decode cX8_feeds 55 = .ok (.iadd, 1) := by decide +kernel
theorem dX8_feeds_56 : decode cX8_feeds 56 = .ok (.iload_n 1, 1) := by decide +kernel
theorem dX8_feeds_57 : decode cX8_feeds 57 = .ok (.i2b, 1) := by decide +kernel
theorem dX8_feeds_58 : decode cX8_feeds 58 = .ok (.bastore, 1) := by decide +kernel
theorem dX8_feeds_59 : decode cX8_feeds 59 = .ok (.aload_n 0, 1) := by decide +kernel
theorem dX8_feeds_60 : decode cX8_feeds 60 = .ok (.dup, 1) := by decide +kernel
theorem dX8_feeds_61 : decode cX8_feeds 61 = .ok (.getfield 213, 3) := by decide +kernel
theorem dX8_feeds_64 : decode cX8_feeds 64 = .ok (.iconst 4, 1) := by decide +kernel
theorem dX8_feeds_65 : decode cX8_feeds 65 = .ok (.iadd, 1) := by decide +kernel
theorem dX8_feeds_66 : decode cX8_feeds 66 = .ok (.putfield 213, 3) := by decide +kernel
theorem dX8_feeds_69 : decode cX8_feeds 69 = .ok (.return_, 1) := by decide +kernel
theorem dX8_append_0 : decode cX8_append 0 = .ok (.aload_n 0, 1) := by decide +kernel
theorem dX8_append_1 : decode cX8_append 1 = .ok (.getfield 213, 3) := by decide +kernel
theorem dX8_append_4 : decode cX8_append 4 = .ok (.sipush 580, 3) := by decide +kernel
theorem dX8_append_7 : decode cX8_append 7 = .ok (.if_icmp .le 9, 3) := by decide +kernel
theorem dX8_append_10 : decode cX8_append 10 = .ok (.aload_n 0, 1) := by decide +kernel
theorem dX8_append_11 : decode cX8_append 11 = .ok (.iconst 1, 1) := by decide +kernel
theorem dX8_append_12 : decode cX8_append 12 = .ok (.invokevirtual 216, 3) := by decide +kernel
theorem dX8_append_15 : decode cX8_append 15 = .ok (.ireturn, 1) := by decide +kernel
theorem dX8_append_16 : decode cX8_append 16 = .ok (.aload_n 0, 1) := by decide +kernel
theorem dX8_append_17 : decode cX8_append 17 = .ok (.iload_n 1, 1) := by decide +kernel
theorem dX8_append_18 : decode cX8_append 18 = .ok (.invokevirtual 219, 3) := by decide +kernel
theorem dX8_append_21 : decode cX8_append 21 = .ok (.aload_n 0, 1) := by decide +kernel
theorem dX8_append_22 : decode cX8_append 22 = .ok (.iload_n 2, 1) := by decide +kernel
theorem dX8_append_23 : decode cX8_append 23 = .ok (.invokevirtual 219, 3) := by decide +kernel
theorem dX8_append_26 : decode cX8_append 26 = .ok (.aload_n 0, 1) := by decide +kernel
theorem dX8_append_27 : decode cX8_append 27 = .ok (.iload_n 3, 1) := by decide +kernel
theorem dX8_append_28 : decode cX8_append 28 = .ok (.invokevirtual 219, 3) := by decide +kernel
theorem dX8_append_31 : decode cX8_append 31 = .ok (.aload_n 0, 1) := by decide +kernel
theorem dX8_append_32 : decode cX8_append 32 = .ok (.iload 4, 2) := by decide +kernel
theorem dX8_append_34 : decode cX8_append 34 = .ok (.invokevirtual 219, 3) := by decide +kernel
theorem dX8_append_37 : decode cX8_append 37 = .ok (.aload_n 0, 1) := by decide +kernel
theorem dX8_append_38 : decode cX8_append 38 = .ok (.iload 5, 2) := by decide +kernel
theorem dX8_append_40 : decode cX8_append 40 = .ok (.invokevirtual 219, 3) := by decide +kernel
theorem dX8_append_43 : decode cX8_append 43 = .ok (.aload_n 0, 1) := by decide +kernel
theorem dX8_append_44 : decode cX8_append 44 = .ok (.aload_n 0, 1) := by decide +kernel
theorem dX8_append_45 : decode cX8_append 45 = .ok (.getfield 213, 3) := by decide +kernel
theorem dX8_append_48 : decode cX8_append 48 = .ok (.invokevirtual 222, 3) := by decide +kernel
theorem dX8_append_51 : decode cX8_append 51 = .ok (.ireturn, 1) := by decide +kernel
theorem dX8_load_0 : decode cX8_load 0 = .ok (.iload_n 1, 1) := by decide +kernel
theorem dX8_load_1 : decode cX8_load 1 = .ok (.iconst 0, 1) := by decide +kernel
theorem dX8_load_2 : decode cX8_load 2 = .ok (.aload_n 0, 1) := by decide +kernel
theorem dX8_load_3 : decode cX8_load 3 = .ok (.getfield 213, 3) := by decide +kernel
theorem dX8_load_6 : decode cX8_load 6 = .ok (.invokestatic 66, 3) := by decide +kernel
theorem dX8_load_9 : decode cX8_load 9 = .ok (.ifCond .ne 9, 3) := by decide +kernel
theorem dX8_load_12 : decode cX8_load 12 = .ok (.aload_n 0, 1) := by decide +kernel
theorem dX8_load_13 : decode cX8_load 13 = .ok (.iconst 1, 1) := by decide +kernel
theorem dX8_load_14 : decode cX8_load 14 = .ok (.invokevirtual 216, 3) := by decide +kernel
theorem dX8_load_17 : decode cX8_load 17 = .ok (.ireturn, 1) := by decide +kernel
theorem dX8_load_18 : decode cX8_load 18 = .ok (.aload_n 0, 1) := by decide +kernel
theorem dX8_load_19 : decode cX8_load 19 = .ok (.invokevirtual 225, 3) := by decide +kernel
theorem dX8_load_22 : decode cX8_load 22 = .ok (.aload_n 0, 1) := by decide +kernel
theorem dX8_load_23 : decode cX8_load 23 = .ok (.iload_n 1, 1) := by decide +kernel
theorem dX8_load_24 : decode cX8_load 24 = .ok (.invokevirtual 228, 3) := by decide +kernel
theorem dX8_load_27 : decode cX8_load 27 = .ok (.aload_n 0, 1) := by decide +kernel
theorem dX8_load_28 : decode cX8_load 28 = .ok (.iconst 0, 1) := by decide +kernel
theorem dX8_load_29 : decode cX8_load 29 = .ok (.putfield 213, 3) := by decide +kernel
theorem dX8_load_32 : decode cX8_load 32 = .ok (.aload_n 0, 1) := by decide +kernel
theorem dX8_load_33 : decode cX8_load 33 = .ok (.aload_n 0, 1) := by decide +kernel
theorem dX8_load_34 : decode cX8_load 34 = .ok (.getfield 151, 3) := by decide +kernel
theorem dX8_load_37 : decode cX8_load 37 = .ok (.putfield 231, 3) := by decide +kernel
theorem dX8_load_40 : decode cX8_load 40 = .ok (.aload_n 0, 1) := by decide +kernel
theorem dX8_load_41 : decode cX8_load 41 = .ok (.aload_n 0, 1) := by decide +kernel
theorem dX8_load_42 : decode cX8_load 42 = .ok (.getfield 151, 3) := by decide +kernel
theorem dX8_load_45 : decode cX8_load 45 = .ok (.ifCond .ne 7, 3) := by decide +kernel
theorem dX8_load_48 : decode cX8_load 48 = .ok (.iconst (-1), 1) := by decide +kernel
theorem dX8_load_49 : decode cX8_load 49 = .ok (.goto 7, 3) := by decide +kernel
theorem dX8_load_52 : decode cX8_load 52 = .ok (.aload_n 0, 1) := by decide +kernel
theorem dX8_load_53 : decode cX8_load 53 = .ok (.getfield 154, 3) := by decide +kernel
theorem dX8_load_56 : decode cX8_load 56 = .ok (.putfield 49, 3) := by decide +kernel
theorem dX8_load_59 : decode cX8_load 59 = .ok (.aload_n 0, 1) := by decide +kernel
theorem dX8_load_60 : decode cX8_load 60 = .ok (.getfield 151, 3) := by decide +kernel
theorem dX8_load_63 : decode cX8_load 63 = .ok (.ifCond .eq 13, 3) := by decide +kernel
theorem dX8_load_66 : decode cX8_load 66 = .ok (.aload_n 0, 1) := by decide +kernel
theorem dX8_load_67 : decode cX8_load 67 = .ok (.invokevirtual 234, 3) := by decide +kernel
theorem dX8_load_70 : decode cX8_load 70 = .ok (.aload_n 0, 1) := by decide +kernel
theorem dX8_load_71 : decode cX8_load 71 = .ok (.iconst 2, 1) := by decide +kernel
theorem dX8_load_72 : decode cX8_load 72 = .ok (.invokevirtual 216, 3) := by decide +kernel
theorem dX8_load_75 : decode cX8_load 75 = .ok (.ireturn, 1) := by decide +kernel
theorem dX8_load_76 : decode cX8_load 76 = .ok (.aload_n 0, 1) := by decide +kernel
theorem dX8_load_77 : decode cX8_load 77 = .ok (.iconst 0, 1) := by decide +kernel
theorem dX8_load_78 : decode cX8_load 78 = .ok (.putfield 127, 3) := by decide +kernel
theorem dX8_load_81 : decode cX8_load 81 = .ok (.aload_n 0, 1) := by decide +kernel
theorem dX8_load_82 : decode cX8_load 82 = .ok (.iconst 0, 1) := by decide +kernel
theorem dX8_load_83 : decode cX8_load 83 = .ok (.putfield 237, 3) := by decide +kernel
theorem dX8_load_86 : decode cX8_load 86 = .ok (.aload_n 0, 1) := by decide +kernel
theorem dX8_load_87 : decode cX8_load 87 = .ok (.aload_n 0, 1) := by decide +kernel
theorem dX8_load_88 : decode cX8_load 88 = .ok (.getfield 19, 3) := by decide +kernel
theorem dX8_load_91 : decode cX8_load 91 = .ok (.bipush 7, 2) := by decide +kernel
theorem dX8_load_93 : decode cX8_load 93 = .ok (.iaload, 1) := by decide +kernel
theorem dX8_load_94 : decode cX8_load 94 = .ok (.invokevirtual 222, 3) := by decide +kernel
theorem dX8_load_97 : decode cX8_load 97 = .ok (.ireturn, 1) := by decide +kernel
theorem dX8_errorKind_0 : decode cX8_errorKind 0 = .ok (.aload_n 0, 1) := by decide +kernel
theorem dX8_errorKind_1 : decode cX8_errorKind 1 = .ok (.aload_n 0, 1) := by decide +kernel
theorem dX8_errorKind_2 : decode cX8_errorKind 2 = .ok (.getfield 231, 3) := by decide +kernel
theorem dX8_errorKind_5 : decode cX8_errorKind 5 = .ok (.invokevirtual 222, 3) := by decide +kernel
theorem dX8_errorKind_8 : decode cX8_errorKind 8 = .ok (.ireturn, 1) := by decide +kernel
theorem dX8_errorOffset_0 : decode cX8_errorOffset 0 = .ok (.aload_n 0, 1) := by decide +kernel
theorem dX8_errorOffset_1 : decode cX8_errorOffset 1 = .ok (.aload_n 0, 1) := by decide +kernel
theorem dX8_errorOffset_2 : decode cX8_errorOffset 2 = .ok (.getfield 49, 3) := by decide +kernel
theorem dX8_errorOffset_5 : decode cX8_errorOffset 5 = .ok (.invokevirtual 222, 3) := by decide +kernel
theorem dX8_errorOffset_8 : decode cX8_errorOffset 8 = .ok (.ireturn, 1) := by decide +kernel
theorem dX8_day_0 : decode cX8_day 0 = .ok (.aload_n 0, 1) := by decide +kernel
theorem dX8_day_1 : decode cX8_day 1 = .ok (.aload_n 0, 1) := by decide +kernel
theorem dX8_day_2 : decode cX8_day 2 = .ok (.getfield 19, 3) := by decide +kernel
theorem dX8_day_5 : decode cX8_day 5 = .ok (.bipush 8, 2) := by decide +kernel
theorem dX8_day_7 : decode cX8_day 7 = .ok (.iaload, 1) := by decide +kernel
theorem dX8_day_8 : decode cX8_day 8 = .ok (.invokevirtual 222, 3) := by decide +kernel
theorem dX8_day_11 : decode cX8_day 11 = .ok (.ireturn, 1) := by decide +kernel
theorem dX8_lodgerCount_0 : decode cX8_lodgerCount 0 = .ok (.aload_n 0, 1) := by decide +kernel
theorem dX8_lodgerCount_1 : decode cX8_lodgerCount 1 = .ok (.aload_n 0, 1) := by decide +kernel
theorem dX8_lodgerCount_2 : decode cX8_lodgerCount 2 = .ok (.getfield 19, 3) := by decide +kernel
theorem dX8_lodgerCount_5 : decode cX8_lodgerCount 5 = .ok (.bipush 7, 2) := by decide +kernel
theorem dX8_lodgerCount_7 : decode cX8_lodgerCount 7 = .ok (.iaload, 1) := by decide +kernel
theorem dX8_lodgerCount_8 : decode cX8_lodgerCount 8 = .ok (.invokevirtual 222, 3) := by decide +kernel
theorem dX8_lodgerCount_11 : decode cX8_lodgerCount 11 = .ok (.ireturn, 1) := by decide +kernel
theorem dX8_baseRent_0 : decode cX8_baseRent 0 = .ok (.aload_n 0, 1) := by decide +kernel
theorem dX8_baseRent_1 : decode cX8_baseRent 1 = .ok (.aload_n 0, 1) := by decide +kernel
theorem dX8_baseRent_2 : decode cX8_baseRent 2 = .ok (.getfield 19, 3) := by decide +kernel
theorem dX8_baseRent_5 : decode cX8_baseRent 5 = .ok (.iconst 0, 1) := by decide +kernel
theorem dX8_baseRent_6 : decode cX8_baseRent 6 = .ok (.iaload, 1) := by decide +kernel
theorem dX8_baseRent_7 : decode cX8_baseRent 7 = .ok (.invokevirtual 222, 3) := by decide +kernel
theorem dX8_baseRent_10 : decode cX8_baseRent 10 = .ok (.ireturn, 1) := by decide +kernel
theorem dX8_tolerance_0 : decode cX8_tolerance 0 = .ok (.aload_n 0, 1) := by decide +kernel
theorem dX8_tolerance_1 : decode cX8_tolerance 1 = .ok (.aload_n 0, 1) := by decide +kernel
theorem dX8_tolerance_2 : decode cX8_tolerance 2 = .ok (.getfield 19, 3) := by decide +kernel
theorem dX8_tolerance_5 : decode cX8_tolerance 5 = .ok (.iconst 1, 1) := by decide +kernel
theorem dX8_tolerance_6 : decode cX8_tolerance 6 = .ok (.iaload, 1) := by decide +kernel
theorem dX8_tolerance_7 : decode cX8_tolerance 7 = .ok (.invokevirtual 222, 3) := by decide +kernel
theorem dX8_tolerance_10 : decode cX8_tolerance 10 = .ok (.ireturn, 1) := by decide +kernel
theorem dX8_rentOf_0 : decode cX8_rentOf 0 = .ok (.iload_n 1, 1) := by decide +kernel
theorem dX8_rentOf_1 : decode cX8_rentOf 1 = .ok (.invokestatic 240, 3) := by decide +kernel
theorem dX8_rentOf_4 : decode cX8_rentOf 4 = .ok (.ifCond .eq 15, 3) := by decide +kernel
theorem dX8_rentOf_7 : decode cX8_rentOf 7 = .ok (.aload_n 0, 1) := by decide +kernel
theorem dX8_rentOf_8 : decode cX8_rentOf 8 = .ok (.aload_n 0, 1) := by decide +kernel
theorem dX8_rentOf_9 : decode cX8_rentOf 9 = .ok (.iload_n 1, 1) := by decide +kernel
theorem dX8_rentOf_10 : decode cX8_rentOf 10 = .ok (.invokevirtual 93, 3) := by decide +kernel
theorem dX8_rentOf_13 : decode cX8_rentOf 13 = .ok (.invokevirtual 222, 3) := by decide +kernel
theorem dX8_rentOf_16 : decode cX8_rentOf 16 = .ok (.goto 8, 3) := by decide +kernel
theorem dX8_rentOf_19 : decode cX8_rentOf 19 = .ok (.aload_n 0, 1) := by decide +kernel
theorem dX8_rentOf_20 : decode cX8_rentOf 20 = .ok (.iconst 1, 1) := by decide +kernel
theorem dX8_rentOf_21 : decode cX8_rentOf 21 = .ok (.invokevirtual 216, 3) := by decide +kernel
theorem dX8_rentOf_24 : decode cX8_rentOf 24 = .ok (.ireturn, 1) := by decide +kernel
theorem dX8_landladyVowel_0 : decode cX8_landladyVowel 0 = .ok (.iload_n 1, 1) := by decide +kernel
theorem dX8_landladyVowel_1 : decode cX8_landladyVowel 1 = .ok (.invokestatic 243, 3) := by decide +kernel
theorem dX8_landladyVowel_4 : decode cX8_landladyVowel 4 = .ok (.ifCond .eq 18, 3) := by decide +kernel
theorem dX8_landladyVowel_7 : decode cX8_landladyVowel 7 = .ok (.aload_n 0, 1) := by decide +kernel
theorem dX8_landladyVowel_8 : decode cX8_landladyVowel 8 = .ok (.aload_n 0, 1) := by decide +kernel
theorem dX8_landladyVowel_9 : decode cX8_landladyVowel 9 = .ok (.getfield 19, 3) := by decide +kernel
theorem dX8_landladyVowel_12 : decode cX8_landladyVowel 12 = .ok (.iconst 2, 1) := by decide +kernel
theorem dX8_landladyVowel_13 : decode cX8_landladyVowel 13 = .ok (.iload_n 1, 1) := by decide +kernel
theorem dX8_landladyVowel_14 : decode cX8_landladyVowel 14 = .ok (.iadd, 1) := by decide +kernel
theorem dX8_landladyVowel_15 : decode cX8_landladyVowel 15 = .ok (.iaload, 1) := by decide +kernel
theorem dX8_landladyVowel_16 : decode cX8_landladyVowel 16 = .ok (.invokevirtual 222, 3) := by decide +kernel
theorem dX8_landladyVowel_19 : decode cX8_landladyVowel 19 = .ok (.goto 8, 3) := by decide +kernel
theorem dX8_landladyVowel_22 : decode cX8_landladyVowel 22 = .ok (.aload_n 0, 1) := by decide +kernel
theorem dX8_landladyVowel_23 : decode cX8_landladyVowel 23 = .ok (.iconst 1, 1) := by decide +kernel
theorem dX8_landladyVowel_24 : decode cX8_landladyVowel 24 = .ok (.invokevirtual 216, 3) := by decide +kernel
theorem dX8_landladyVowel_27 : decode cX8_landladyVowel 27 = .ok (.ireturn, 1) := by decide +kernel
theorem dX8_daysLeft_0 : decode cX8_daysLeft 0 = .ok (.bipush 7, 2) := by decide +kernel
theorem dX8_daysLeft_2 : decode cX8_daysLeft 2 = .ok (.aload_n 0, 1) := by decide +kernel
theorem dX8_daysLeft_3 : decode cX8_daysLeft 3 = .ok (.getfield 19, 3) := by decide +kernel
theorem dX8_daysLeft_6 : decode cX8_daysLeft 6 = .ok (.bipush 8, 2) := by decide +kernel
theorem dX8_daysLeft_8 : decode cX8_daysLeft 8 = .ok (.iaload, 1) := by decide +kernel
theorem dX8_daysLeft_9 : decode cX8_daysLeft 9 = .ok (.bipush 7, 2) := by decide +kernel
theorem dX8_daysLeft_11 : decode cX8_daysLeft 11 = .ok (.irem, 1) := by decide +kernel
theorem dX8_daysLeft_12 : decode cX8_daysLeft 12 = .ok (.isub, 1) := by decide +kernel
theorem dX8_daysLeft_13 : decode cX8_daysLeft 13 = .ok (.ireturn, 1) := by decide +kernel
theorem dX8_daysToInspection_0 : decode cX8_daysToInspection 0 = .ok (.aload_n 0, 1) := by decide +kernel
theorem dX8_daysToInspection_1 : decode cX8_daysToInspection 1 = .ok (.aload_n 0, 1) := by decide +kernel
theorem dX8_daysToInspection_2 : decode cX8_daysToInspection 2 = .ok (.invokevirtual 246, 3) := by decide +kernel
theorem dX8_daysToInspection_5 : decode cX8_daysToInspection 5 = .ok (.invokevirtual 222, 3) := by decide +kernel
theorem dX8_daysToInspection_8 : decode cX8_daysToInspection 8 = .ok (.ireturn, 1) := by decide +kernel
theorem dX8_evictions_0 : decode cX8_evictions 0 = .ok (.aload_n 0, 1) := by decide +kernel
theorem dX8_evictions_1 : decode cX8_evictions 1 = .ok (.aload_n 0, 1) := by decide +kernel
theorem dX8_evictions_2 : decode cX8_evictions 2 = .ok (.getfield 19, 3) := by decide +kernel
theorem dX8_evictions_5 : decode cX8_evictions 5 = .ok (.bipush 9, 2) := by decide +kernel
theorem dX8_evictions_7 : decode cX8_evictions 7 = .ok (.iaload, 1) := by decide +kernel
theorem dX8_evictions_8 : decode cX8_evictions 8 = .ok (.invokevirtual 222, 3) := by decide +kernel
theorem dX8_evictions_11 : decode cX8_evictions 11 = .ok (.ireturn, 1) := by decide +kernel
theorem dX8_undoCount_0 : decode cX8_undoCount 0 = .ok (.aload_n 0, 1) := by decide +kernel
theorem dX8_undoCount_1 : decode cX8_undoCount 1 = .ok (.aload_n 0, 1) := by decide +kernel
theorem dX8_undoCount_2 : decode cX8_undoCount 2 = .ok (.getfield 127, 3) := by decide +kernel
theorem dX8_undoCount_5 : decode cX8_undoCount 5 = .ok (.invokevirtual 222, 3) := by decide +kernel
theorem dX8_undoCount_8 : decode cX8_undoCount 8 = .ok (.ireturn, 1) := by decide +kernel
theorem dX8_ofLodger_0 : decode cX8_ofLodger 0 = .ok (.aload_n 0, 1) := by decide +kernel
theorem dX8_ofLodger_1 : decode cX8_ofLodger 1 = .ok (.iload_n 1, 1) := by decide +kernel
theorem dX8_ofLodger_2 : decode cX8_ofLodger 2 = .ok (.invokevirtual 249, 3) := by decide +kernel
theorem dX8_ofLodger_5 : decode cX8_ofLodger 5 = .ok (.ifCond .eq 21, 3) := by decide +kernel
theorem dX8_ofLodger_8 : decode cX8_ofLodger 8 = .ok (.aload_n 0, 1) := by decide +kernel
theorem dX8_ofLodger_9 : decode cX8_ofLodger 9 = .ok (.aload_n 0, 1) := by decide +kernel
theorem dX8_ofLodger_10 : decode cX8_ofLodger 10 = .ok (.getfield 19, 3) := by decide +kernel
theorem dX8_ofLodger_13 : decode cX8_ofLodger 13 = .ok (.iload_n 1, 1) := by decide +kernel
theorem dX8_ofLodger_14 : decode cX8_ofLodger 14 = .ok (.invokestatic 56, 3) := by decide +kernel
theorem dX8_ofLodger_17 : decode cX8_ofLodger 17 = .ok (.iload_n 2, 1) := by decide +kernel
theorem dX8_ofLodger_18 : decode cX8_ofLodger 18 = .ok (.iadd, 1) := by decide +kernel
theorem dX8_ofLodger_19 : decode cX8_ofLodger 19 = .ok (.iaload, 1) := by decide +kernel
theorem dX8_ofLodger_20 : decode cX8_ofLodger 20 = .ok (.invokevirtual 222, 3) := by decide +kernel
theorem dX8_ofLodger_23 : decode cX8_ofLodger 23 = .ok (.goto 8, 3) := by decide +kernel
theorem dX8_ofLodger_26 : decode cX8_ofLodger 26 = .ok (.aload_n 0, 1) := by decide +kernel
theorem dX8_ofLodger_27 : decode cX8_ofLodger 27 = .ok (.iconst 1, 1) := by decide +kernel
theorem dX8_ofLodger_28 : decode cX8_ofLodger 28 = .ok (.invokevirtual 216, 3) := by decide +kernel
theorem dX8_ofLodger_31 : decode cX8_ofLodger 31 = .ok (.ireturn, 1) := by decide +kernel
theorem dX8_floorOf_0 : decode cX8_floorOf 0 = .ok (.aload_n 0, 1) := by decide +kernel
theorem dX8_floorOf_1 : decode cX8_floorOf 1 = .ok (.iload_n 1, 1) := by decide +kernel
theorem dX8_floorOf_2 : decode cX8_floorOf 2 = .ok (.iconst 0, 1) := by decide +kernel
theorem dX8_floorOf_3 : decode cX8_floorOf 3 = .ok (.invokevirtual 252, 3) := by decide +kernel
theorem dX8_floorOf_6 : decode cX8_floorOf 6 = .ok (.ireturn, 1) := by decide +kernel
theorem dX8_balanceOf_0 : decode cX8_balanceOf 0 = .ok (.aload_n 0, 1) := by decide +kernel
theorem dX8_balanceOf_1 : decode cX8_balanceOf 1 = .ok (.iload_n 1, 1) := by decide +kernel
theorem dX8_balanceOf_2 : decode cX8_balanceOf 2 = .ok (.iconst 1, 1) := by decide +kernel
theorem dX8_balanceOf_3 : decode cX8_balanceOf 3 = .ok (.invokevirtual 252, 3) := by decide +kernel
theorem dX8_balanceOf_6 : decode cX8_balanceOf 6 = .ok (.ireturn, 1) := by decide +kernel
theorem dX8_vowelOf_0 : decode cX8_vowelOf 0 = .ok (.iload_n 2, 1) := by decide +kernel
theorem dX8_vowelOf_1 : decode cX8_vowelOf 1 = .ok (.invokestatic 243, 3) := by decide +kernel
theorem dX8_vowelOf_4 : decode cX8_vowelOf 4 = .ok (.ifCond .eq 14, 3) := by decide +kernel
theorem dX8_vowelOf_7 : decode cX8_vowelOf 7 = .ok (.aload_n 0, 1) := by decide +kernel
theorem dX8_vowelOf_8 : decode cX8_vowelOf 8 = .ok (.iload_n 1, 1) := by decide +kernel
theorem dX8_vowelOf_9 : decode cX8_vowelOf 9 = .ok (.iconst 5, 1) := by decide +kernel
theorem dX8_vowelOf_10 : decode cX8_vowelOf 10 = .ok (.iload_n 2, 1) := by decide +kernel
theorem dX8_vowelOf_11 : decode cX8_vowelOf 11 = .ok (.iadd, 1) := by decide +kernel
theorem dX8_vowelOf_12 : decode cX8_vowelOf 12 = .ok (.invokevirtual 252, 3) := by decide +kernel
theorem dX8_vowelOf_15 : decode cX8_vowelOf 15 = .ok (.goto 8, 3) := by decide +kernel
theorem dX8_vowelOf_18 : decode cX8_vowelOf 18 = .ok (.aload_n 0, 1) := by decide +kernel
theorem dX8_vowelOf_19 : decode cX8_vowelOf 19 = .ok (.iconst 1, 1) := by decide +kernel
theorem dX8_vowelOf_20 : decode cX8_vowelOf 20 = .ok (.invokevirtual 216, 3) := by decide +kernel
theorem dX8_vowelOf_23 : decode cX8_vowelOf 23 = .ok (.ireturn, 1) := by decide +kernel
theorem dX8_lessonsOf_0 : decode cX8_lessonsOf 0 = .ok (.aload_n 0, 1) := by decide +kernel
theorem dX8_lessonsOf_1 : decode cX8_lessonsOf 1 = .ok (.iload_n 1, 1) := by decide +kernel
theorem dX8_lessonsOf_2 : decode cX8_lessonsOf 2 = .ok (.iconst 2, 1) := by decide +kernel
theorem dX8_lessonsOf_3 : decode cX8_lessonsOf 3 = .ok (.invokevirtual 252, 3) := by decide +kernel
theorem dX8_lessonsOf_6 : decode cX8_lessonsOf 6 = .ok (.ireturn, 1) := by decide +kernel
theorem dX8_slipsOf_0 : decode cX8_slipsOf 0 = .ok (.aload_n 0, 1) := by decide +kernel
theorem dX8_slipsOf_1 : decode cX8_slipsOf 1 = .ok (.iload_n 1, 1) := by decide +kernel
theorem dX8_slipsOf_2 : decode cX8_slipsOf 2 = .ok (.iconst 3, 1) := by decide +kernel
theorem dX8_slipsOf_3 : decode cX8_slipsOf 3 = .ok (.invokevirtual 252, 3) := by decide +kernel
theorem dX8_slipsOf_6 : decode cX8_slipsOf 6 = .ok (.ireturn, 1) := by decide +kernel
theorem dX8_daysStayed_0 : decode cX8_daysStayed 0 = .ok (.aload_n 0, 1) := by decide +kernel
theorem dX8_daysStayed_1 : decode cX8_daysStayed 1 = .ok (.iload_n 1, 1) := by decide +kernel
theorem dX8_daysStayed_2 : decode cX8_daysStayed 2 = .ok (.invokevirtual 249, 3) := by decide +kernel
theorem dX8_daysStayed_5 : decode cX8_daysStayed 5 = .ok (.ifCond .eq 29, 3) := by decide +kernel
theorem dX8_daysStayed_8 : decode cX8_daysStayed 8 = .ok (.aload_n 0, 1) := by decide +kernel
theorem dX8_daysStayed_9 : decode cX8_daysStayed 9 = .ok (.aload_n 0, 1) := by decide +kernel
theorem dX8_daysStayed_10 : decode cX8_daysStayed 10 = .ok (.getfield 19, 3) := by decide +kernel
theorem dX8_daysStayed_13 : decode cX8_daysStayed 13 = .ok (.bipush 8, 2) := by decide +kernel
theorem dX8_daysStayed_15 : decode cX8_daysStayed 15 = .ok (.iaload, 1) := by decide +kernel
theorem dX8_daysStayed_16 : decode cX8_daysStayed 16 = .ok (.aload_n 0, 1) := by decide +kernel
theorem dX8_daysStayed_17 : decode cX8_daysStayed 17 = .ok (.getfield 19, 3) := by decide +kernel
theorem dX8_daysStayed_20 : decode cX8_daysStayed 20 = .ok (.iload_n 1, 1) := by decide +kernel
theorem dX8_daysStayed_21 : decode cX8_daysStayed 21 = .ok (.invokestatic 56, 3) := by decide +kernel
theorem dX8_daysStayed_24 : decode cX8_daysStayed 24 = .ok (.iconst 4, 1) := by decide +kernel
theorem dX8_daysStayed_25 : decode cX8_daysStayed 25 = .ok (.iadd, 1) := by decide +kernel
theorem dX8_daysStayed_26 : decode cX8_daysStayed 26 = .ok (.iaload, 1) := by decide +kernel
theorem dX8_daysStayed_27 : decode cX8_daysStayed 27 = .ok (.isub, 1) := by decide +kernel
theorem dX8_daysStayed_28 : decode cX8_daysStayed 28 = .ok (.invokevirtual 222, 3) := by decide +kernel
theorem dX8_daysStayed_31 : decode cX8_daysStayed 31 = .ok (.goto 8, 3) := by decide +kernel
theorem dX8_daysStayed_34 : decode cX8_daysStayed 34 = .ok (.aload_n 0, 1) := by decide +kernel
theorem dX8_daysStayed_35 : decode cX8_daysStayed 35 = .ok (.iconst 1, 1) := by decide +kernel
theorem dX8_daysStayed_36 : decode cX8_daysStayed 36 = .ok (.invokevirtual 216, 3) := by decide +kernel
theorem dX8_daysStayed_39 : decode cX8_daysStayed 39 = .ok (.ireturn, 1) := by decide +kernel
theorem dX8_lettersOf_0 : decode cX8_lettersOf 0 = .ok (.iconst 0, 1) := by decide +kernel
theorem dX8_lettersOf_1 : decode cX8_lettersOf 1 = .ok (.istore_n 2, 1) := by decide +kernel
theorem dX8_lettersOf_2 : decode cX8_lettersOf 2 = .ok (.iload_n 2, 1) := by decide +kernel
theorem dX8_lettersOf_3 : decode cX8_lettersOf 3 = .ok (.bipush 6, 2) := by decide +kernel
theorem dX8_lettersOf_5 : decode cX8_lettersOf 5 = .ok (.if_icmp .ge 26, 3) := by decide +kernel
theorem dX8_lettersOf_8 : decode cX8_lettersOf 8 = .ok (.aload_n 0, 1) := by decide +kernel
theorem dX8_lettersOf_9 : decode cX8_lettersOf 9 = .ok (.getfield 19, 3) := by decide +kernel
theorem dX8_lettersOf_12 : decode cX8_lettersOf 12 = .ok (.iload_n 1, 1) := by decide +kernel
theorem dX8_lettersOf_13 : decode cX8_lettersOf 13 = .ok (.invokestatic 56, 3) := by decide +kernel
theorem dX8_lettersOf_16 : decode cX8_lettersOf 16 = .ok (.bipush 10, 2) := by decide +kernel
theorem dX8_lettersOf_18 : decode cX8_lettersOf 18 = .ok (.iadd, 1) := by decide +kernel
theorem dX8_lettersOf_19 : decode cX8_lettersOf 19 = .ok (.iload_n 2, 1) := by decide +kernel
theorem dX8_lettersOf_20 : decode cX8_lettersOf 20 = .ok (.iadd, 1) := by decide +kernel
theorem dX8_lettersOf_21 : decode cX8_lettersOf 21 = .ok (.iaload, 1) := by decide +kernel
theorem dX8_lettersOf_22 : decode cX8_lettersOf 22 = .ok (.ifCond .eq 9, 3) := by decide +kernel
theorem dX8_lettersOf_25 : decode cX8_lettersOf 25 = .ok (.iinc 2 1, 3) := by decide +kernel
theorem dX8_lettersOf_28 : decode cX8_lettersOf 28 = .ok (.goto (-26), 3) := by decide +kernel
theorem dX8_lettersOf_31 : decode cX8_lettersOf 31 = .ok (.iload_n 2, 1) := by decide +kernel
theorem dX8_lettersOf_32 : decode cX8_lettersOf 32 = .ok (.ireturn, 1) := by decide +kernel
theorem dX8_nameLength_0 : decode cX8_nameLength 0 = .ok (.aload_n 0, 1) := by decide +kernel
theorem dX8_nameLength_1 : decode cX8_nameLength 1 = .ok (.iload_n 1, 1) := by decide +kernel
theorem dX8_nameLength_2 : decode cX8_nameLength 2 = .ok (.invokevirtual 249, 3) := by decide +kernel
theorem dX8_nameLength_5 : decode cX8_nameLength 5 = .ok (.ifCond .eq 15, 3) := by decide +kernel
theorem dX8_nameLength_8 : decode cX8_nameLength 8 = .ok (.aload_n 0, 1) := by decide +kernel
theorem dX8_nameLength_9 : decode cX8_nameLength 9 = .ok (.aload_n 0, 1) := by decide +kernel
theorem dX8_nameLength_10 : decode cX8_nameLength 10 = .ok (.iload_n 1, 1) := by decide +kernel
theorem dX8_nameLength_11 : decode cX8_nameLength 11 = .ok (.invokevirtual 255, 3) := by decide +kernel
theorem dX8_nameLength_14 : decode cX8_nameLength 14 = .ok (.invokevirtual 222, 3) := by decide +kernel
theorem dX8_nameLength_17 : decode cX8_nameLength 17 = .ok (.goto 8, 3) := by decide +kernel
theorem dX8_nameLength_20 : decode cX8_nameLength 20 = .ok (.aload_n 0, 1) := by decide +kernel
theorem dX8_nameLength_21 : decode cX8_nameLength 21 = .ok (.iconst 1, 1) := by decide +kernel
theorem dX8_nameLength_22 : decode cX8_nameLength 22 = .ok (.invokevirtual 216, 3) := by decide +kernel
theorem dX8_nameLength_25 : decode cX8_nameLength 25 = .ok (.ireturn, 1) := by decide +kernel
theorem dX8_nameLetter_0 : decode cX8_nameLetter 0 = .ok (.aload_n 0, 1) := by decide +kernel
theorem dX8_nameLetter_1 : decode cX8_nameLetter 1 = .ok (.iload_n 1, 1) := by decide +kernel
theorem dX8_nameLetter_2 : decode cX8_nameLetter 2 = .ok (.invokevirtual 249, 3) := by decide +kernel
theorem dX8_nameLetter_5 : decode cX8_nameLetter 5 = .ok (.ifCond .eq 18, 3) := by decide +kernel
theorem dX8_nameLetter_8 : decode cX8_nameLetter 8 = .ok (.iload_n 2, 1) := by decide +kernel
theorem dX8_nameLetter_9 : decode cX8_nameLetter 9 = .ok (.iconst 0, 1) := by decide +kernel
theorem dX8_nameLetter_10 : decode cX8_nameLetter 10 = .ok (.aload_n 0, 1) := by decide +kernel
theorem dX8_nameLetter_11 : decode cX8_nameLetter 11 = .ok (.iload_n 1, 1) := by decide +kernel
theorem dX8_nameLetter_12 : decode cX8_nameLetter 12 = .ok (.invokevirtual 255, 3) := by decide +kernel
theorem dX8_nameLetter_15 : decode cX8_nameLetter 15 = .ok (.iconst 1, 1) := by decide +kernel
theorem dX8_nameLetter_16 : decode cX8_nameLetter 16 = .ok (.isub, 1) := by decide +kernel
theorem dX8_nameLetter_17 : decode cX8_nameLetter 17 = .ok (.invokestatic 66, 3) := by decide +kernel
theorem dX8_nameLetter_20 : decode cX8_nameLetter 20 = .ok (.ifCond .ne 10, 3) := by decide +kernel
theorem dX8_nameLetter_23 : decode cX8_nameLetter 23 = .ok (.aload_n 0, 1) := by decide +kernel
theorem dX8_nameLetter_24 : decode cX8_nameLetter 24 = .ok (.iconst 1, 1) := by decide +kernel
theorem dX8_nameLetter_25 : decode cX8_nameLetter 25 = .ok (.putfield 63, 3) := by decide +kernel
theorem dX8_nameLetter_28 : decode cX8_nameLetter 28 = .ok (.iconst 0, 1) := by decide +kernel
theorem dX8_nameLetter_29 : decode cX8_nameLetter 29 = .ok (.ireturn, 1) := by decide +kernel
theorem dX8_nameLetter_30 : decode cX8_nameLetter 30 = .ok (.aload_n 0, 1) := by decide +kernel
theorem dX8_nameLetter_31 : decode cX8_nameLetter 31 = .ok (.iconst 0, 1) := by decide +kernel
theorem dX8_nameLetter_32 : decode cX8_nameLetter 32 = .ok (.putfield 63, 3) := by decide +kernel
theorem dX8_nameLetter_35 : decode cX8_nameLetter 35 = .ok (.aload_n 0, 1) := by decide +kernel
theorem dX8_nameLetter_36 : decode cX8_nameLetter 36 = .ok (.getfield 19, 3) := by decide +kernel
theorem dX8_nameLetter_39 : decode cX8_nameLetter 39 = .ok (.iload_n 1, 1) := by decide +kernel
theorem dX8_nameLetter_40 : decode cX8_nameLetter 40 = .ok (.invokestatic 56, 3) := by decide +kernel
theorem dX8_nameLetter_43 : decode cX8_nameLetter 43 = .ok (.bipush 10, 2) := by decide +kernel
theorem dX8_nameLetter_45 : decode cX8_nameLetter 45 = .ok (.iadd, 1) := by decide +kernel
theorem dX8_nameLetter_46 : decode cX8_nameLetter 46 = .ok (.iload_n 2, 1) := by decide +kernel
theorem dX8_nameLetter_47 : decode cX8_nameLetter 47 = .ok (.iadd, 1) := by decide +kernel
theorem dX8_nameLetter_48 : decode cX8_nameLetter 48 = .ok (.iaload, 1) := by decide +kernel
theorem dX8_nameLetter_49 : decode cX8_nameLetter 49 = .ok (.i2c, 1) := by decide +kernel
theorem dX8_nameLetter_50 : decode cX8_nameLetter 50 = .ok (.ireturn, 1) := by decide +kernel
theorem dX8_findByName_0 : decode cX8_findByName 0 = .ok (.iconst 0, 1) := by decide +kernel
theorem dX8_findByName_1 : decode cX8_findByName 1 = .ok (.istore_n 1, 1) := by decide +kernel
theorem dX8_findByName_2 : decode cX8_findByName 2 = .ok (.aload_n 0, 1) := by decide +kernel
theorem dX8_findByName_3 : decode cX8_findByName 3 = .ok (.getfield 213, 3) := by decide +kernel
theorem dX8_findByName_6 : decode cX8_findByName 6 = .ok (.istore_n 2, 1) := by decide +kernel
theorem dX8_findByName_7 : decode cX8_findByName 7 = .ok (.iload_n 1, 1) := by decide +kernel
theorem dX8_findByName_8 : decode cX8_findByName 8 = .ok (.iload_n 2, 1) := by decide +kernel
theorem dX8_findByName_9 : decode cX8_findByName 9 = .ok (.if_icmp .ge 20, 3) := by decide +kernel
theorem dX8_findByName_12 : decode cX8_findByName 12 = .ok (.aload_n 0, 1) := by decide +kernel
theorem dX8_findByName_13 : decode cX8_findByName 13 = .ok (.getfield 41, 3) := by decide +kernel
theorem dX8_findByName_16 : decode cX8_findByName 16 = .ok (.iload_n 1, 1) := by decide +kernel
theorem dX8_findByName_17 : decode cX8_findByName 17 = .ok (.baload, 1) := by decide +kernel
theorem dX8_findByName_18 : decode cX8_findByName 18 = .ok (.bipush 32, 2) := by decide +kernel
theorem dX8_findByName_20 : decode cX8_findByName 20 = .ok (.if_icmp .ne 9, 3) := by decide +kernel
theorem dX8_findByName_23 : decode cX8_findByName 23 = .ok (.iinc 1 1, 3) := by decide +kernel
theorem dX8_findByName_26 : decode cX8_findByName 26 = .ok (.goto (-19), 3) := by decide +kernel
theorem dX8_findByName_29 : decode cX8_findByName 29 = .ok (.iload_n 2, 1) := by decide +kernel
theorem dX8_findByName_30 : decode cX8_findByName 30 = .ok (.iload_n 1, 1) := by decide +kernel
theorem dX8_findByName_31 : decode cX8_findByName 31 = .ok (.if_icmp .le 22, 3) := by decide +kernel
theorem dX8_findByName_34 : decode cX8_findByName 34 = .ok (.aload_n 0, 1) := by decide +kernel
theorem dX8_findByName_35 : decode cX8_findByName 35 = .ok (.getfield 41, 3) := by decide +kernel
theorem dX8_findByName_38 : decode cX8_findByName 38 = .ok (.iload_n 2, 1) := by decide +kernel
theorem dX8_findByName_39 : decode cX8_findByName 39 = .ok (.iconst 1, 1) := by decide +kernel
theorem dX8_findByName_40 : decode cX8_findByName 40 = .ok (.isub, 1) := by decide +kernel
theorem dX8_findByName_41 : decode cX8_findByName 41 = .ok (.baload, 1) := by decide +kernel
theorem dX8_findByName_42 : decode cX8_findByName 42 = .ok (.bipush 32, 2) := by decide +kernel
theorem dX8_findByName_44 : decode cX8_findByName 44 = .ok (.if_icmp .ne 9, 3) := by decide +kernel
theorem dX8_findByName_47 : decode cX8_findByName 47 = .ok (.iinc 2 (-1), 3) := by decide +kernel
theorem dX8_findByName_50 : decode cX8_findByName 50 = .ok (.goto (-21), 3) := by decide +kernel
theorem dX8_findByName_53 : decode cX8_findByName 53 = .ok (.aload_n 0, 1) := by decide +kernel
theorem dX8_findByName_54 : decode cX8_findByName 54 = .ok (.aload_n 0, 1) := by decide +kernel
theorem dX8_findByName_55 : decode cX8_findByName 55 = .ok (.iload_n 1, 1) := by decide +kernel
theorem dX8_findByName_56 : decode cX8_findByName 56 = .ok (.iload_n 2, 1) := by decide +kernel
theorem dX8_findByName_57 : decode cX8_findByName 57 = .ok (.invokevirtual 178, 3) := by decide +kernel
theorem dX8_findByName_60 : decode cX8_findByName 60 = .ok (.invokevirtual 222, 3) := by decide +kernel
theorem dX8_findByName_63 : decode cX8_findByName 63 = .ok (.ireturn, 1) := by decide +kernel
theorem dX8_lodgersOn_0 : decode cX8_lodgersOn 0 = .ok (.iload_n 1, 1) := by decide +kernel
theorem dX8_lodgersOn_1 : decode cX8_lodgersOn 1 = .ok (.invokestatic 240, 3) := by decide +kernel
theorem dX8_lodgersOn_4 : decode cX8_lodgersOn 4 = .ok (.ifCond .eq 16, 3) := by decide +kernel
theorem dX8_lodgersOn_7 : decode cX8_lodgersOn 7 = .ok (.aload_n 0, 1) := by decide +kernel
theorem dX8_lodgersOn_8 : decode cX8_lodgersOn 8 = .ok (.aload_n 0, 1) := by decide +kernel
theorem dX8_lodgersOn_9 : decode cX8_lodgersOn 9 = .ok (.iload_n 1, 1) := by decide +kernel
theorem dX8_lodgersOn_10 : decode cX8_lodgersOn 10 = .ok (.iconst (-1), 1) := by decide +kernel
theorem dX8_lodgersOn_11 : decode cX8_lodgersOn 11 = .ok (.invokevirtual 80, 3) := by decide +kernel
theorem dX8_lodgersOn_14 : decode cX8_lodgersOn 14 = .ok (.invokevirtual 222, 3) := by decide +kernel
theorem dX8_lodgersOn_17 : decode cX8_lodgersOn 17 = .ok (.goto 8, 3) := by decide +kernel
theorem dX8_lodgersOn_20 : decode cX8_lodgersOn 20 = .ok (.aload_n 0, 1) := by decide +kernel
theorem dX8_lodgersOn_21 : decode cX8_lodgersOn 21 = .ok (.iconst 1, 1) := by decide +kernel
theorem dX8_lodgersOn_22 : decode cX8_lodgersOn 22 = .ok (.invokevirtual 216, 3) := by decide +kernel
theorem dX8_lodgersOn_25 : decode cX8_lodgersOn 25 = .ok (.ireturn, 1) := by decide +kernel
theorem dX8_lodgerOn_0 : decode cX8_lodgerOn 0 = .ok (.iload_n 1, 1) := by decide +kernel
theorem dX8_lodgerOn_1 : decode cX8_lodgerOn 1 = .ok (.invokestatic 240, 3) := by decide +kernel
theorem dX8_lodgerOn_4 : decode cX8_lodgerOn 4 = .ok (.ifCond .eq 7, 3) := by decide +kernel
theorem dX8_lodgerOn_7 : decode cX8_lodgerOn 7 = .ok (.iload_n 2, 1) := by decide +kernel
theorem dX8_lodgerOn_8 : decode cX8_lodgerOn 8 = .ok (.ifCond .ge 9, 3) := by decide +kernel
theorem dX8_lodgerOn_11 : decode cX8_lodgerOn 11 = .ok (.aload_n 0, 1) := by decide +kernel
theorem dX8_lodgerOn_12 : decode cX8_lodgerOn 12 = .ok (.iconst 1, 1) := by decide +kernel
theorem dX8_lodgerOn_13 : decode cX8_lodgerOn 13 = .ok (.invokevirtual 216, 3) := by decide +kernel
theorem dX8_lodgerOn_16 : decode cX8_lodgerOn 16 = .ok (.ireturn, 1) := by decide +kernel
theorem dX8_lodgerOn_17 : decode cX8_lodgerOn 17 = .ok (.iload_n 2, 1) := by decide +kernel
theorem dX8_lodgerOn_18 : decode cX8_lodgerOn 18 = .ok (.istore_n 3, 1) := by decide +kernel
theorem dX8_lodgerOn_19 : decode cX8_lodgerOn 19 = .ok (.iconst 0, 1) := by decide +kernel
theorem dX8_lodgerOn_20 : decode cX8_lodgerOn 20 = .ok (.istore 4, 2) := by decide +kernel
theorem dX8_lodgerOn_22 : decode cX8_lodgerOn 22 = .ok (.iload 4, 2) := by decide +kernel
theorem dX8_lodgerOn_24 : decode cX8_lodgerOn 24 = .ok (.aload_n 0, 1) := by decide +kernel
theorem dX8_lodgerOn_25 : decode cX8_lodgerOn 25 = .ok (.getfield 19, 3) := by decide +kernel
theorem dX8_lodgerOn_28 : decode cX8_lodgerOn 28 = .ok (.bipush 7, 2) := by decide +kernel
theorem dX8_lodgerOn_30 : decode cX8_lodgerOn 30 = .ok (.iaload, 1) := by decide +kernel
theorem dX8_lodgerOn_31 : decode cX8_lodgerOn 31 = .ok (.if_icmp .ge 39, 3) := by decide +kernel
theorem dX8_lodgerOn_34 : decode cX8_lodgerOn 34 = .ok (.aload_n 0, 1) := by decide +kernel
theorem dX8_lodgerOn_35 : decode cX8_lodgerOn 35 = .ok (.getfield 19, 3) := by decide +kernel
theorem dX8_lodgerOn_38 : decode cX8_lodgerOn 38 = .ok (.iload 4, 2) := by decide +kernel
theorem dX8_lodgerOn_40 : decode cX8_lodgerOn 40 = .ok (.invokestatic 56, 3) := by decide +kernel
theorem dX8_lodgerOn_43 : decode cX8_lodgerOn 43 = .ok (.iconst 0, 1) := by decide +kernel
theorem dX8_lodgerOn_44 : decode cX8_lodgerOn 44 = .ok (.iadd, 1) := by decide +kernel
theorem dX8_lodgerOn_45 : decode cX8_lodgerOn 45 = .ok (.iaload, 1) := by decide +kernel
theorem dX8_lodgerOn_46 : decode cX8_lodgerOn 46 = .ok (.iload_n 1, 1) := by decide +kernel
theorem dX8_lodgerOn_47 : decode cX8_lodgerOn 47 = .ok (.if_icmp .ne 17, 3) := by decide +kernel
theorem dX8_lodgerOn_50 : decode cX8_lodgerOn 50 = .ok (.iload_n 3, 1) := by decide +kernel
theorem dX8_lodgerOn_51 : decode cX8_lodgerOn 51 = .ok (.ifCond .ne 10, 3) := by decide +kernel
theorem dX8_lodgerOn_54 : decode cX8_lodgerOn 54 = .ok (.aload_n 0, 1) := by decide +kernel
theorem dX8_lodgerOn_55 : decode cX8_lodgerOn 55 = .ok (.iload 4, 2) := by decide +kernel
theorem dX8_lodgerOn_57 : decode cX8_lodgerOn 57 = .ok (.invokevirtual 222, 3) := by decide +kernel
theorem dX8_lodgerOn_60 : decode cX8_lodgerOn 60 = .ok (.ireturn, 1) := by decide +kernel
theorem dX8_lodgerOn_61 : decode cX8_lodgerOn 61 = .ok (.iinc 3 (-1), 3) := by decide +kernel
theorem dX8_lodgerOn_64 : decode cX8_lodgerOn 64 = .ok (.iinc 4 1, 3) := by decide +kernel
theorem dX8_lodgerOn_67 : decode cX8_lodgerOn 67 = .ok (.goto (-45), 3) := by decide +kernel
theorem dX8_lodgerOn_70 : decode cX8_lodgerOn 70 = .ok (.aload_n 0, 1) := by decide +kernel
theorem dX8_lodgerOn_71 : decode cX8_lodgerOn 71 = .ok (.iconst 1, 1) := by decide +kernel
theorem dX8_lodgerOn_72 : decode cX8_lodgerOn 72 = .ok (.invokevirtual 216, 3) := by decide +kernel
theorem dX8_lodgerOn_75 : decode cX8_lodgerOn 75 = .ok (.ireturn, 1) := by decide +kernel
theorem dX8_averageVowel_0 : decode cX8_averageVowel 0 = .ok (.iload_n 1, 1) := by decide +kernel
theorem dX8_averageVowel_1 : decode cX8_averageVowel 1 = .ok (.invokestatic 240, 3) := by decide +kernel
theorem dX8_averageVowel_4 : decode cX8_averageVowel 4 = .ok (.ifCond .eq 10, 3) := by decide +kernel
theorem dX8_averageVowel_7 : decode cX8_averageVowel 7 = .ok (.iload_n 2, 1) := by decide +kernel
theorem dX8_averageVowel_8 : decode cX8_averageVowel 8 = .ok (.invokestatic 243, 3) := by decide +kernel
theorem dX8_averageVowel_11 : decode cX8_averageVowel 11 = .ok (.ifCond .ne 9, 3) := by decide +kernel
theorem dX8_averageVowel_14 : decode cX8_averageVowel 14 = .ok (.aload_n 0, 1) := by decide +kernel
theorem dX8_averageVowel_15 : decode cX8_averageVowel 15 = .ok (.iconst 1, 1) := by decide +kernel
theorem dX8_averageVowel_16 : decode cX8_averageVowel 16 = .ok (.invokevirtual 216, 3) := by decide +kernel
theorem dX8_averageVowel_19 : decode cX8_averageVowel 19 = .ok (.ireturn, 1) := by decide +kernel
theorem dX8_averageVowel_20 : decode cX8_averageVowel 20 = .ok (.aload_n 0, 1) := by decide +kernel
theorem dX8_averageVowel_21 : decode cX8_averageVowel 21 = .ok (.iload_n 1, 1) := by decide +kernel
theorem dX8_averageVowel_22 : decode cX8_averageVowel 22 = .ok (.iconst (-1), 1) := by decide +kernel
theorem dX8_averageVowel_23 : decode cX8_averageVowel 23 = .ok (.invokevirtual 80, 3) := by decide +kernel
theorem dX8_averageVowel_26 : decode cX8_averageVowel 26 = .ok (.ifCond .ne 9, 3) := by decide +kernel
theorem dX8_averageVowel_29 : decode cX8_averageVowel 29 = .ok (.aload_n 0, 1) := by decide +kernel
theorem dX8_averageVowel_30 : decode cX8_averageVowel 30 = .ok (.iconst 2, 1) := by decide +kernel
theorem dX8_averageVowel_31 : decode cX8_averageVowel 31 = .ok (.invokevirtual 216, 3) := by decide +kernel
theorem dX8_averageVowel_34 : decode cX8_averageVowel 34 = .ok (.ireturn, 1) := by decide +kernel
theorem dX8_averageVowel_35 : decode cX8_averageVowel 35 = .ok (.aload_n 0, 1) := by decide +kernel
theorem dX8_averageVowel_36 : decode cX8_averageVowel 36 = .ok (.aload_n 0, 1) := by decide +kernel
theorem dX8_averageVowel_37 : decode cX8_averageVowel 37 = .ok (.iload_n 1, 1) := by decide +kernel
theorem dX8_averageVowel_38 : decode cX8_averageVowel 38 = .ok (.iload_n 2, 1) := by decide +kernel
theorem dX8_averageVowel_39 : decode cX8_averageVowel 39 = .ok (.invokevirtual 83, 3) := by decide +kernel
theorem dX8_averageVowel_42 : decode cX8_averageVowel 42 = .ok (.invokevirtual 222, 3) := by decide +kernel
theorem dX8_averageVowel_45 : decode cX8_averageVowel 45 = .ok (.ireturn, 1) := by decide +kernel
theorem dX8_distanceToLandlady_0 : decode cX8_distanceToLandlady 0 = .ok (.aload_n 0, 1) := by decide +kernel
theorem dX8_distanceToLandlady_1 : decode cX8_distanceToLandlady 1 = .ok (.iload_n 1, 1) := by decide +kernel
theorem dX8_distanceToLandlady_2 : decode cX8_distanceToLandlady 2 = .ok (.invokevirtual 249, 3) := by decide +kernel
theorem dX8_distanceToLandlady_5 : decode cX8_distanceToLandlady 5 = .ok (.ifCond .eq 15, 3) := by decide +kernel
theorem dX8_distanceToLandlady_8 : decode cX8_distanceToLandlady 8 = .ok (.aload_n 0, 1) := by decide +kernel
theorem dX8_distanceToLandlady_9 : decode cX8_distanceToLandlady 9 = .ok (.aload_n 0, 1) := by decide +kernel
theorem dX8_distanceToLandlady_10 : decode cX8_distanceToLandlady 10 = .ok (.iload_n 1, 1) := by decide +kernel
theorem dX8_distanceToLandlady_11 : decode cX8_distanceToLandlady 11 = .ok (.invokevirtual 86, 3) := by decide +kernel
theorem dX8_distanceToLandlady_14 : decode cX8_distanceToLandlady 14 = .ok (.invokevirtual 222, 3) := by decide +kernel
theorem dX8_distanceToLandlady_17 : decode cX8_distanceToLandlady 17 = .ok (.goto 8, 3) := by decide +kernel
theorem dX8_distanceToLandlady_20 : decode cX8_distanceToLandlady 20 = .ok (.aload_n 0, 1) := by decide +kernel
theorem dX8_distanceToLandlady_21 : decode cX8_distanceToLandlady 21 = .ok (.iconst 1, 1) := by decide +kernel
theorem dX8_distanceToLandlady_22 : decode cX8_distanceToLandlady 22 = .ok (.invokevirtual 216, 3) := by decide +kernel
theorem dX8_distanceToLandlady_25 : decode cX8_distanceToLandlady 25 = .ok (.ireturn, 1) := by decide +kernel
theorem dX8_distance_0 : decode cX8_distance 0 = .ok (.aload_n 0, 1) := by decide +kernel
theorem dX8_distance_1 : decode cX8_distance 1 = .ok (.iload_n 1, 1) := by decide +kernel
theorem dX8_distance_2 : decode cX8_distance 2 = .ok (.invokevirtual 249, 3) := by decide +kernel
theorem dX8_distance_5 : decode cX8_distance 5 = .ok (.ifCond .eq 24, 3) := by decide +kernel
theorem dX8_distance_8 : decode cX8_distance 8 = .ok (.aload_n 0, 1) := by decide +kernel
theorem dX8_distance_9 : decode cX8_distance 9 = .ok (.iload_n 2, 1) := by decide +kernel
theorem dX8_distance_10 : decode cX8_distance 10 = .ok (.invokevirtual 249, 3) := by decide +kernel
theorem dX8_distance_13 : decode cX8_distance 13 = .ok (.ifCond .eq 16, 3) := by decide +kernel
theorem dX8_distance_16 : decode cX8_distance 16 = .ok (.aload_n 0, 1) := by decide +kernel
theorem dX8_distance_17 : decode cX8_distance 17 = .ok (.aload_n 0, 1) := by decide +kernel
theorem dX8_distance_18 : decode cX8_distance 18 = .ok (.iload_n 1, 1) := by decide +kernel
theorem dX8_distance_19 : decode cX8_distance 19 = .ok (.iload_n 2, 1) := by decide +kernel
theorem dX8_distance_20 : decode cX8_distance 20 = .ok (.invokevirtual 258, 3) := by decide +kernel
theorem dX8_distance_23 : decode cX8_distance 23 = .ok (.invokevirtual 222, 3) := by decide +kernel
theorem dX8_distance_26 : decode cX8_distance 26 = .ok (.goto 8, 3) := by decide +kernel
theorem dX8_distance_29 : decode cX8_distance 29 = .ok (.aload_n 0, 1) := by decide +kernel
theorem dX8_distance_30 : decode cX8_distance 30 = .ok (.iconst 1, 1) := by decide +kernel
theorem dX8_distance_31 : decode cX8_distance 31 = .ok (.invokevirtual 216, 3) := by decide +kernel
theorem dX8_distance_34 : decode cX8_distance 34 = .ok (.ireturn, 1) := by decide +kernel
theorem dX8_refuses_0 : decode cX8_refuses 0 = .ok (.aload_n 0, 1) := by decide +kernel
theorem dX8_refuses_1 : decode cX8_refuses 1 = .ok (.iconst 1, 1) := by decide +kernel
theorem dX8_refuses_2 : decode cX8_refuses 2 = .ok (.putfield 63, 3) := by decide +kernel
theorem dX8_refuses_5 : decode cX8_refuses 5 = .ok (.iconst 0, 1) := by decide +kernel
theorem dX8_refuses_6 : decode cX8_refuses 6 = .ok (.ireturn, 1) := by decide +kernel
theorem dX8_rhymes_0 : decode cX8_rhymes 0 = .ok (.aload_n 0, 1) := by decide +kernel
theorem dX8_rhymes_1 : decode cX8_rhymes 1 = .ok (.iload_n 1, 1) := by decide +kernel
theorem dX8_rhymes_2 : decode cX8_rhymes 2 = .ok (.invokevirtual 249, 3) := by decide +kernel
theorem dX8_rhymes_5 : decode cX8_rhymes 5 = .ok (.ifCond .eq 24, 3) := by decide +kernel
theorem dX8_rhymes_8 : decode cX8_rhymes 8 = .ok (.aload_n 0, 1) := by decide +kernel
theorem dX8_rhymes_9 : decode cX8_rhymes 9 = .ok (.iload_n 2, 1) := by decide +kernel
theorem dX8_rhymes_10 : decode cX8_rhymes 10 = .ok (.invokevirtual 249, 3) := by decide +kernel
theorem dX8_rhymes_13 : decode cX8_rhymes 13 = .ok (.ifCond .eq 16, 3) := by decide +kernel
theorem dX8_rhymes_16 : decode cX8_rhymes 16 = .ok (.aload_n 0, 1) := by decide +kernel
theorem dX8_rhymes_17 : decode cX8_rhymes 17 = .ok (.aload_n 0, 1) := by decide +kernel
theorem dX8_rhymes_18 : decode cX8_rhymes 18 = .ok (.iload_n 1, 1) := by decide +kernel
theorem dX8_rhymes_19 : decode cX8_rhymes 19 = .ok (.iload_n 2, 1) := by decide +kernel
theorem dX8_rhymes_20 : decode cX8_rhymes 20 = .ok (.invokevirtual 261, 3) := by decide +kernel
theorem dX8_rhymes_23 : decode cX8_rhymes 23 = .ok (.invokevirtual 265, 3) := by decide +kernel
theorem dX8_rhymes_26 : decode cX8_rhymes 26 = .ok (.goto 7, 3) := by decide +kernel
theorem dX8_rhymes_29 : decode cX8_rhymes 29 = .ok (.aload_n 0, 1) := by decide +kernel
theorem dX8_rhymes_30 : decode cX8_rhymes 30 = .ok (.invokevirtual 269, 3) := by decide +kernel
theorem dX8_rhymes_33 : decode cX8_rhymes 33 = .ok (.ireturn, 1) := by decide +kernel
theorem dX8_rhymesWithLandlady_0 : decode cX8_rhymesWithLandlady 0 = .ok (.aload_n 0, 1) := by decide +kernel
theorem dX8_rhymesWithLandlady_1 : decode cX8_rhymesWithLandlady 1 = .ok (.iload_n 1, 1) := by decide +kernel
theorem dX8_rhymesWithLandlady_2 : decode cX8_rhymesWithLandlady 2 = .ok (.invokevirtual 249, 3) := by decide +kernel
theorem dX8_rhymesWithLandlady_5 : decode cX8_rhymesWithLandlady 5 = .ok (.ifCond .eq 15, 3) := by decide +kernel
theorem dX8_rhymesWithLandlady_8 : decode cX8_rhymesWithLandlady 8 = .ok (.aload_n 0, 1) := by decide +kernel
theorem dX8_rhymesWithLandlady_9 : decode cX8_rhymesWithLandlady 9 = .ok (.aload_n 0, 1) := by decide +kernel
theorem dX8_rhymesWithLandlady_10 : decode cX8_rhymesWithLandlady 10 = .ok (.iload_n 1, 1) := by decide +kernel
theorem dX8_rhymesWithLandlady_11 : decode cX8_rhymesWithLandlady 11 = .ok (.invokevirtual 89, 3) := by decide +kernel
theorem dX8_rhymesWithLandlady_14 : decode cX8_rhymesWithLandlady 14 = .ok (.invokevirtual 265, 3) := by decide +kernel
theorem dX8_rhymesWithLandlady_17 : decode cX8_rhymesWithLandlady 17 = .ok (.goto 7, 3) := by decide +kernel
theorem dX8_rhymesWithLandlady_20 : decode cX8_rhymesWithLandlady 20 = .ok (.aload_n 0, 1) := by decide +kernel
theorem dX8_rhymesWithLandlady_21 : decode cX8_rhymesWithLandlady 21 = .ok (.invokevirtual 269, 3) := by decide +kernel
theorem dX8_rhymesWithLandlady_24 : decode cX8_rhymesWithLandlady 24 = .ok (.ireturn, 1) := by decide +kernel
theorem dX8_rhymeCount_0 : decode cX8_rhymeCount 0 = .ok (.aload_n 0, 1) := by decide +kernel
theorem dX8_rhymeCount_1 : decode cX8_rhymeCount 1 = .ok (.iload_n 1, 1) := by decide +kernel
theorem dX8_rhymeCount_2 : decode cX8_rhymeCount 2 = .ok (.invokevirtual 249, 3) := by decide +kernel
theorem dX8_rhymeCount_5 : decode cX8_rhymeCount 5 = .ok (.ifCond .ne 9, 3) := by decide +kernel
theorem dX8_rhymeCount_8 : decode cX8_rhymeCount 8 = .ok (.aload_n 0, 1) := by decide +kernel
theorem dX8_rhymeCount_9 : decode cX8_rhymeCount 9 = .ok (.iconst 1, 1) := by decide +kernel
theorem dX8_rhymeCount_10 : decode cX8_rhymeCount 10 = .ok (.invokevirtual 216, 3) := by decide +kernel
theorem dX8_rhymeCount_13 : decode cX8_rhymeCount 13 = .ok (.ireturn, 1) := by decide +kernel
theorem dX8_rhymeCount_14 : decode cX8_rhymeCount 14 = .ok (.iconst 0, 1) := by decide +kernel
theorem dX8_rhymeCount_15 : decode cX8_rhymeCount 15 = .ok (.istore_n 2, 1) := by decide +kernel
theorem dX8_rhymeCount_16 : decode cX8_rhymeCount 16 = .ok (.iconst 0, 1) := by decide +kernel
theorem dX8_rhymeCount_17 : decode cX8_rhymeCount 17 = .ok (.istore_n 3, 1) := by decide +kernel
theorem dX8_rhymeCount_18 : decode cX8_rhymeCount 18 = .ok (.iload_n 3, 1) := by decide +kernel
theorem dX8_rhymeCount_19 : decode cX8_rhymeCount 19 = .ok (.aload_n 0, 1) := by decide +kernel
theorem dX8_rhymeCount_20 : decode cX8_rhymeCount 20 = .ok (.getfield 19, 3) := by decide +kernel
theorem dX8_rhymeCount_23 : decode cX8_rhymeCount 23 = .ok (.bipush 7, 2) := by decide +kernel
theorem dX8_rhymeCount_25 : decode cX8_rhymeCount 25 = .ok (.iaload, 1) := by decide +kernel
theorem dX8_rhymeCount_26 : decode cX8_rhymeCount 26 = .ok (.if_icmp .ge 31, 3) := by decide +kernel
theorem dX8_rhymeCount_29 : decode cX8_rhymeCount 29 = .ok (.iload_n 2, 1) := by decide +kernel
theorem dX8_rhymeCount_30 : decode cX8_rhymeCount 30 = .ok (.iload_n 3, 1) := by decide +kernel
theorem dX8_rhymeCount_31 : decode cX8_rhymeCount 31 = .ok (.iload_n 1, 1) := by decide +kernel
theorem dX8_rhymeCount_32 : decode cX8_rhymeCount 32 = .ok (.if_icmp .eq 16, 3) := by decide +kernel
theorem dX8_rhymeCount_35 : decode cX8_rhymeCount 35 = .ok (.aload_n 0, 1) := by decide +kernel
theorem dX8_rhymeCount_36 : decode cX8_rhymeCount 36 = .ok (.iload_n 3, 1) := by decide +kernel
theorem dX8_rhymeCount_37 : decode cX8_rhymeCount 37 = .ok (.iload_n 1, 1) := by decide +kernel
theorem dX8_rhymeCount_38 : decode cX8_rhymeCount 38 = .ok (.invokevirtual 261, 3) := by decide +kernel
theorem dX8_rhymeCount_41 : decode cX8_rhymeCount 41 = .ok (.ifCond .eq 7, 3) := by decide +kernel
theorem dX8_rhymeCount_44 : decode cX8_rhymeCount 44 = .ok (.iconst 1, 1) := by decide +kernel
theorem dX8_rhymeCount_45 : decode cX8_rhymeCount 45 = .ok (.goto 4, 3) := by decide +kernel
theorem dX8_rhymeCount_48 : decode cX8_rhymeCount 48 = .ok (.iconst 0, 1) := by decide +kernel
theorem dX8_rhymeCount_49 : decode cX8_rhymeCount 49 = .ok (.iadd, 1) := by decide +kernel
theorem dX8_rhymeCount_50 : decode cX8_rhymeCount 50 = .ok (.istore_n 2, 1) := by decide +kernel
theorem dX8_rhymeCount_51 : decode cX8_rhymeCount 51 = .ok (.iinc 3 1, 3) := by decide +kernel
theorem dX8_rhymeCount_54 : decode cX8_rhymeCount 54 = .ok (.goto (-36), 3) := by decide +kernel
theorem dX8_rhymeCount_57 : decode cX8_rhymeCount 57 = .ok (.aload_n 0, 1) := by decide +kernel
theorem dX8_rhymeCount_58 : decode cX8_rhymeCount 58 = .ok (.iload_n 2, 1) := by decide +kernel
theorem dX8_rhymeCount_59 : decode cX8_rhymeCount 59 = .ok (.invokevirtual 222, 3) := by decide +kernel
theorem dX8_rhymeCount_62 : decode cX8_rhymeCount 62 = .ok (.ireturn, 1) := by decide +kernel
theorem dX8_closestTo_0 : decode cX8_closestTo 0 = .ok (.aload_n 0, 1) := by decide +kernel
theorem dX8_closestTo_1 : decode cX8_closestTo 1 = .ok (.iload_n 1, 1) := by decide +kernel
theorem dX8_closestTo_2 : decode cX8_closestTo 2 = .ok (.invokevirtual 249, 3) := by decide +kernel
theorem dX8_closestTo_5 : decode cX8_closestTo 5 = .ok (.ifCond .ne 9, 3) := by decide +kernel
theorem dX8_closestTo_8 : decode cX8_closestTo 8 = .ok (.aload_n 0, 1) := by decide +kernel
theorem dX8_closestTo_9 : decode cX8_closestTo 9 = .ok (.iconst 1, 1) := by decide +kernel
theorem dX8_closestTo_10 : decode cX8_closestTo 10 = .ok (.invokevirtual 216, 3) := by decide +kernel
theorem dX8_closestTo_13 : decode cX8_closestTo 13 = .ok (.ireturn, 1) := by decide +kernel
theorem dX8_closestTo_14 : decode cX8_closestTo 14 = .ok (.iconst (-1), 1) := by decide +kernel
theorem dX8_closestTo_15 : decode cX8_closestTo 15 = .ok (.istore_n 2, 1) := by decide +kernel
theorem dX8_closestTo_16 : decode cX8_closestTo 16 = .ok (.iconst 0, 1) := by decide +kernel
theorem dX8_closestTo_17 : decode cX8_closestTo 17 = .ok (.istore_n 3, 1) := by decide +kernel
theorem dX8_closestTo_18 : decode cX8_closestTo 18 = .ok (.iload_n 3, 1) := by decide +kernel
theorem dX8_closestTo_19 : decode cX8_closestTo 19 = .ok (.aload_n 0, 1) := by decide +kernel
theorem dX8_closestTo_20 : decode cX8_closestTo 20 = .ok (.getfield 19, 3) := by decide +kernel
theorem dX8_closestTo_23 : decode cX8_closestTo 23 = .ok (.bipush 7, 2) := by decide +kernel
theorem dX8_closestTo_25 : decode cX8_closestTo 25 = .ok (.iaload, 1) := by decide +kernel
theorem dX8_closestTo_26 : decode cX8_closestTo 26 = .ok (.if_icmp .ge 36, 3) := by decide +kernel
theorem dX8_closestTo_29 : decode cX8_closestTo 29 = .ok (.iload_n 3, 1) := by decide +kernel
theorem dX8_closestTo_30 : decode cX8_closestTo 30 = .ok (.iload_n 1, 1) := by decide +kernel
theorem dX8_closestTo_31 : decode cX8_closestTo 31 = .ok (.if_icmp .eq 25, 3) := by decide +kernel
theorem dX8_closestTo_34 : decode cX8_closestTo 34 = .ok (.iload_n 2, 1) := by decide +kernel
theorem dX8_closestTo_35 : decode cX8_closestTo 35 = .ok (.iconst (-1), 1) := by decide +kernel
theorem dX8_closestTo_36 : decode cX8_closestTo 36 = .ok (.if_icmp .eq 18, 3) := by decide +kernel
theorem dX8_closestTo_39 : decode cX8_closestTo 39 = .ok (.aload_n 0, 1) := by decide +kernel
theorem dX8_closestTo_40 : decode cX8_closestTo 40 = .ok (.iload_n 3, 1) := by decide +kernel
theorem dX8_closestTo_41 : decode cX8_closestTo 41 = .ok (.iload_n 1, 1) := by decide +kernel
theorem dX8_closestTo_42 : decode cX8_closestTo 42 = .ok (.invokevirtual 258, 3) := by decide +kernel
theorem dX8_closestTo_45 : decode cX8_closestTo 45 = .ok (.aload_n 0, 1) := by decide +kernel
theorem dX8_closestTo_46 : decode cX8_closestTo 46 = .ok (.iload_n 2, 1) := by decide +kernel
theorem dX8_closestTo_47 : decode cX8_closestTo 47 = .ok (.iload_n 1, 1) := by decide +kernel
theorem dX8_closestTo_48 : decode cX8_closestTo 48 = .ok (.invokevirtual 258, 3) := by decide +kernel
theorem dX8_closestTo_51 : decode cX8_closestTo 51 = .ok (.if_icmp .ge 5, 3) := by decide +kernel
theorem dX8_closestTo_54 : decode cX8_closestTo 54 = .ok (.iload_n 3, 1) := by decide +kernel
theorem dX8_closestTo_55 : decode cX8_closestTo 55 = .ok (.istore_n 2, 1) := by decide +kernel
theorem dX8_closestTo_56 : decode cX8_closestTo 56 = .ok (.iinc 3 1, 3) := by decide +kernel
theorem dX8_closestTo_59 : decode cX8_closestTo 59 = .ok (.goto (-41), 3) := by decide +kernel
theorem dX8_closestTo_62 : decode cX8_closestTo 62 = .ok (.aload_n 0, 1) := by decide +kernel
theorem dX8_closestTo_63 : decode cX8_closestTo 63 = .ok (.iload_n 2, 1) := by decide +kernel
theorem dX8_closestTo_64 : decode cX8_closestTo 64 = .ok (.invokevirtual 222, 3) := by decide +kernel
theorem dX8_closestTo_67 : decode cX8_closestTo 67 = .ok (.ireturn, 1) := by decide +kernel
theorem dX8_lessonVowel_0 : decode cX8_lessonVowel 0 = .ok (.aload_n 0, 1) := by decide +kernel
theorem dX8_lessonVowel_1 : decode cX8_lessonVowel 1 = .ok (.iload_n 1, 1) := by decide +kernel
theorem dX8_lessonVowel_2 : decode cX8_lessonVowel 2 = .ok (.invokevirtual 249, 3) := by decide +kernel
theorem dX8_lessonVowel_5 : decode cX8_lessonVowel 5 = .ok (.ifCond .eq 15, 3) := by decide +kernel
theorem dX8_lessonVowel_8 : decode cX8_lessonVowel 8 = .ok (.aload_n 0, 1) := by decide +kernel
theorem dX8_lessonVowel_9 : decode cX8_lessonVowel 9 = .ok (.aload_n 0, 1) := by decide +kernel
theorem dX8_lessonVowel_10 : decode cX8_lessonVowel 10 = .ok (.iload_n 1, 1) := by decide +kernel
theorem dX8_lessonVowel_11 : decode cX8_lessonVowel 11 = .ok (.invokevirtual 96, 3) := by decide +kernel
theorem dX8_lessonVowel_14 : decode cX8_lessonVowel 14 = .ok (.invokevirtual 222, 3) := by decide +kernel
theorem dX8_lessonVowel_17 : decode cX8_lessonVowel 17 = .ok (.goto 8, 3) := by decide +kernel
theorem dX8_lessonVowel_20 : decode cX8_lessonVowel 20 = .ok (.aload_n 0, 1) := by decide +kernel
theorem dX8_lessonVowel_21 : decode cX8_lessonVowel 21 = .ok (.iconst 1, 1) := by decide +kernel
theorem dX8_lessonVowel_22 : decode cX8_lessonVowel 22 = .ok (.invokevirtual 216, 3) := by decide +kernel
theorem dX8_lessonVowel_25 : decode cX8_lessonVowel 25 = .ok (.ireturn, 1) := by decide +kernel
theorem dX8_slipVowel_0 : decode cX8_slipVowel 0 = .ok (.aload_n 0, 1) := by decide +kernel
theorem dX8_slipVowel_1 : decode cX8_slipVowel 1 = .ok (.iload_n 1, 1) := by decide +kernel
theorem dX8_slipVowel_2 : decode cX8_slipVowel 2 = .ok (.invokevirtual 249, 3) := by decide +kernel
theorem dX8_slipVowel_5 : decode cX8_slipVowel 5 = .ok (.ifCond .ne 9, 3) := by decide +kernel
theorem dX8_slipVowel_8 : decode cX8_slipVowel 8 = .ok (.aload_n 0, 1) := by decide +kernel
theorem dX8_slipVowel_9 : decode cX8_slipVowel 9 = .ok (.iconst 1, 1) := by decide +kernel
theorem dX8_slipVowel_10 : decode cX8_slipVowel 10 = .ok (.invokevirtual 216, 3) := by decide +kernel
theorem dX8_slipVowel_13 : decode cX8_slipVowel 13 = .ok (.ireturn, 1) := by decide +kernel
theorem dX8_slipVowel_14 : decode cX8_slipVowel 14 = .ok (.aload_n 0, 1) := by decide +kernel
theorem dX8_slipVowel_15 : decode cX8_slipVowel 15 = .ok (.invokevirtual 118, 3) := by decide +kernel
theorem dX8_slipVowel_18 : decode cX8_slipVowel 18 = .ok (.aload_n 0, 1) := by decide +kernel
theorem dX8_slipVowel_19 : decode cX8_slipVowel 19 = .ok (.aload_n 0, 1) := by decide +kernel
theorem dX8_slipVowel_20 : decode cX8_slipVowel 20 = .ok (.iload_n 1, 1) := by decide +kernel
theorem dX8_slipVowel_21 : decode cX8_slipVowel 21 = .ok (.invokevirtual 102, 3) := by decide +kernel
theorem dX8_slipVowel_24 : decode cX8_slipVowel 24 = .ok (.invokevirtual 222, 3) := by decide +kernel
theorem dX8_slipVowel_27 : decode cX8_slipVowel 27 = .ok (.ireturn, 1) := by decide +kernel
theorem dX8_mustGo_0 : decode cX8_mustGo 0 = .ok (.aload_n 0, 1) := by decide +kernel
theorem dX8_mustGo_1 : decode cX8_mustGo 1 = .ok (.iload_n 1, 1) := by decide +kernel
theorem dX8_mustGo_2 : decode cX8_mustGo 2 = .ok (.invokevirtual 249, 3) := by decide +kernel
theorem dX8_mustGo_5 : decode cX8_mustGo 5 = .ok (.ifCond .eq 15, 3) := by decide +kernel
theorem dX8_mustGo_8 : decode cX8_mustGo 8 = .ok (.aload_n 0, 1) := by decide +kernel
theorem dX8_mustGo_9 : decode cX8_mustGo 9 = .ok (.aload_n 0, 1) := by decide +kernel
theorem dX8_mustGo_10 : decode cX8_mustGo 10 = .ok (.iload_n 1, 1) := by decide +kernel
theorem dX8_mustGo_11 : decode cX8_mustGo 11 = .ok (.invokevirtual 105, 3) := by decide +kernel
theorem dX8_mustGo_14 : decode cX8_mustGo 14 = .ok (.invokevirtual 265, 3) := by decide +kernel
theorem dX8_mustGo_17 : decode cX8_mustGo 17 = .ok (.goto 7, 3) := by decide +kernel
theorem dX8_mustGo_20 : decode cX8_mustGo 20 = .ok (.aload_n 0, 1) := by decide +kernel
theorem dX8_mustGo_21 : decode cX8_mustGo 21 = .ok (.invokevirtual 269, 3) := by decide +kernel
theorem dX8_mustGo_24 : decode cX8_mustGo 24 = .ok (.ireturn, 1) := by decide +kernel
theorem dX8_meanDistance_0 : decode cX8_meanDistance 0 = .ok (.aload_n 0, 1) := by decide +kernel
theorem dX8_meanDistance_1 : decode cX8_meanDistance 1 = .ok (.iconst 0, 1) := by decide +kernel
theorem dX8_meanDistance_2 : decode cX8_meanDistance 2 = .ok (.putfield 63, 3) := by decide +kernel
theorem dX8_meanDistance_5 : decode cX8_meanDistance 5 = .ok (.iconst 0, 1) := by decide +kernel
theorem dX8_meanDistance_6 : decode cX8_meanDistance 6 = .ok (.istore_n 1, 1) := by decide +kernel
theorem dX8_meanDistance_7 : decode cX8_meanDistance 7 = .ok (.iconst 0, 1) := by decide +kernel
theorem dX8_meanDistance_8 : decode cX8_meanDistance 8 = .ok (.istore_n 2, 1) := by decide +kernel
theorem dX8_meanDistance_9 : decode cX8_meanDistance 9 = .ok (.iload_n 2, 1) := by decide +kernel
theorem dX8_meanDistance_10 : decode cX8_meanDistance 10 = .ok (.aload_n 0, 1) := by decide +kernel
theorem dX8_meanDistance_11 : decode cX8_meanDistance 11 = .ok (.getfield 19, 3) := by decide +kernel
theorem dX8_meanDistance_14 : decode cX8_meanDistance 14 = .ok (.bipush 7, 2) := by decide +kernel
theorem dX8_meanDistance_16 : decode cX8_meanDistance 16 = .ok (.iaload, 1) := by decide +kernel
theorem dX8_meanDistance_17 : decode cX8_meanDistance 17 = .ok (.if_icmp .ge 17, 3) := by decide +kernel
theorem dX8_meanDistance_20 : decode cX8_meanDistance 20 = .ok (.iload_n 1, 1) := by decide +kernel
theorem dX8_meanDistance_21 : decode cX8_meanDistance 21 = .ok (.aload_n 0, 1) := by decide +kernel
theorem dX8_meanDistance_22 : decode cX8_meanDistance 22 = .ok (.iload_n 2, 1) := by decide +kernel
theorem dX8_meanDistance_23 : decode cX8_meanDistance 23 = .ok (.invokevirtual 86, 3) := by decide +kernel
theorem dX8_meanDistance_26 : decode cX8_meanDistance 26 = .ok (.iadd, 1) := by decide +kernel
theorem dX8_meanDistance_27 : decode cX8_meanDistance 27 = .ok (.istore_n 1, 1) := by decide +kernel
theorem dX8_meanDistance_28 : decode cX8_meanDistance 28 = .ok (.iinc 2 1, 3) := by decide +kernel
theorem dX8_meanDistance_31 : decode cX8_meanDistance 31 = .ok (.goto (-22), 3) := by decide +kernel
theorem dX8_meanDistance_34 : decode cX8_meanDistance 34 = .ok (.aload_n 0, 1) := by decide +kernel
theorem dX8_meanDistance_35 : decode cX8_meanDistance 35 = .ok (.getfield 19, 3) := by decide +kernel
theorem dX8_meanDistance_38 : decode cX8_meanDistance 38 = .ok (.bipush 7, 2) := by decide +kernel
theorem dX8_meanDistance_40 : decode cX8_meanDistance 40 = .ok (.iaload, 1) := by decide +kernel
theorem dX8_meanDistance_41 : decode cX8_meanDistance 41 = .ok (.ifCond .ne 7, 3) := by decide +kernel
theorem dX8_meanDistance_44 : decode cX8_meanDistance 44 = .ok (.dconst 0, 1) := by decide +kernel
theorem dX8_meanDistance_45 : decode cX8_meanDistance 45 = .ok (.goto 14, 3) := by decide +kernel
theorem dX8_meanDistance_48 : decode cX8_meanDistance 48 = .ok (.iload_n 1, 1) := by decide +kernel
theorem dX8_meanDistance_49 : decode cX8_meanDistance 49 = .ok (.i2d, 1) := by decide +kernel
theorem dX8_meanDistance_50 : decode cX8_meanDistance 50 = .ok (.aload_n 0, 1) := by decide +kernel
theorem dX8_meanDistance_51 : decode cX8_meanDistance 51 = .ok (.getfield 19, 3) := by decide +kernel
theorem dX8_meanDistance_54 : decode cX8_meanDistance 54 = .ok (.bipush 7, 2) := by decide +kernel
theorem dX8_meanDistance_56 : decode cX8_meanDistance 56 = .ok (.iaload, 1) := by decide +kernel
theorem dX8_meanDistance_57 : decode cX8_meanDistance 57 = .ok (.i2d, 1) := by decide +kernel
theorem dX8_meanDistance_58 : decode cX8_meanDistance 58 = .ok (.ddiv, 1) := by decide +kernel
theorem dX8_meanDistance_59 : decode cX8_meanDistance 59 = .ok (.dreturn, 1) := by decide +kernel
theorem dX8_rhymingShare_0 : decode cX8_rhymingShare 0 = .ok (.aload_n 0, 1) := by decide +kernel
theorem dX8_rhymingShare_1 : decode cX8_rhymingShare 1 = .ok (.iconst 0, 1) := by decide +kernel
theorem dX8_rhymingShare_2 : decode cX8_rhymingShare 2 = .ok (.putfield 63, 3) := by decide +kernel
theorem dX8_rhymingShare_5 : decode cX8_rhymingShare 5 = .ok (.iconst 0, 1) := by decide +kernel
theorem dX8_rhymingShare_6 : decode cX8_rhymingShare 6 = .ok (.istore_n 1, 1) := by decide +kernel
theorem dX8_rhymingShare_7 : decode cX8_rhymingShare 7 = .ok (.iconst 0, 1) := by decide +kernel
theorem dX8_rhymingShare_8 : decode cX8_rhymingShare 8 = .ok (.istore_n 2, 1) := by decide +kernel
theorem dX8_rhymingShare_9 : decode cX8_rhymingShare 9 = .ok (.iload_n 2, 1) := by decide +kernel
theorem dX8_rhymingShare_10 : decode cX8_rhymingShare 10 = .ok (.aload_n 0, 1) := by decide +kernel
theorem dX8_rhymingShare_11 : decode cX8_rhymingShare 11 = .ok (.getfield 19, 3) := by decide +kernel
theorem dX8_rhymingShare_14 : decode cX8_rhymingShare 14 = .ok (.bipush 7, 2) := by decide +kernel
theorem dX8_rhymingShare_16 : decode cX8_rhymingShare 16 = .ok (.iaload, 1) := by decide +kernel
theorem dX8_rhymingShare_17 : decode cX8_rhymingShare 17 = .ok (.if_icmp .ge 25, 3) := by decide +kernel
theorem dX8_rhymingShare_20 : decode cX8_rhymingShare 20 = .ok (.iload_n 1, 1) := by decide +kernel
theorem dX8_rhymingShare_21 : decode cX8_rhymingShare 21 = .ok (.aload_n 0, 1) := by decide +kernel
theorem dX8_rhymingShare_22 : decode cX8_rhymingShare 22 = .ok (.iload_n 2, 1) := by decide +kernel
theorem dX8_rhymingShare_23 : decode cX8_rhymingShare 23 = .ok (.invokevirtual 89, 3) := by decide +kernel
theorem dX8_rhymingShare_26 : decode cX8_rhymingShare 26 = .ok (.ifCond .eq 7, 3) := by decide +kernel
theorem dX8_rhymingShare_29 : decode cX8_rhymingShare 29 = .ok (.iconst 1, 1) := by decide +kernel
theorem dX8_rhymingShare_30 : decode cX8_rhymingShare 30 = .ok (.goto 4, 3) := by decide +kernel
theorem dX8_rhymingShare_33 : decode cX8_rhymingShare 33 = .ok (.iconst 0, 1) := by decide +kernel
theorem dX8_rhymingShare_34 : decode cX8_rhymingShare 34 = .ok (.iadd, 1) := by decide +kernel
theorem dX8_rhymingShare_35 : decode cX8_rhymingShare 35 = .ok (.istore_n 1, 1) := by decide +kernel
theorem dX8_rhymingShare_36 : decode cX8_rhymingShare 36 = .ok (.iinc 2 1, 3) := by decide +kernel
theorem dX8_rhymingShare_39 : decode cX8_rhymingShare 39 = .ok (.goto (-30), 3) := by decide +kernel
theorem dX8_rhymingShare_42 : decode cX8_rhymingShare 42 = .ok (.aload_n 0, 1) := by decide +kernel
theorem dX8_rhymingShare_43 : decode cX8_rhymingShare 43 = .ok (.getfield 19, 3) := by decide +kernel
theorem dX8_rhymingShare_46 : decode cX8_rhymingShare 46 = .ok (.bipush 7, 2) := by decide +kernel
theorem dX8_rhymingShare_48 : decode cX8_rhymingShare 48 = .ok (.iaload, 1) := by decide +kernel
theorem dX8_rhymingShare_49 : decode cX8_rhymingShare 49 = .ok (.ifCond .ne 7, 3) := by decide +kernel
theorem dX8_rhymingShare_52 : decode cX8_rhymingShare 52 = .ok (.fconst 0, 1) := by decide +kernel
theorem dX8_rhymingShare_53 : decode cX8_rhymingShare 53 = .ok (.goto 14, 3) := by decide +kernel
theorem dX8_rhymingShare_56 : decode cX8_rhymingShare 56 = .ok (.iload_n 1, 1) := by decide +kernel
theorem dX8_rhymingShare_57 : decode cX8_rhymingShare 57 = .ok (.i2f, 1) := by decide +kernel
theorem dX8_rhymingShare_58 : decode cX8_rhymingShare 58 = .ok (.aload_n 0, 1) := by decide +kernel
theorem dX8_rhymingShare_59 : decode cX8_rhymingShare 59 = .ok (.getfield 19, 3) := by decide +kernel
theorem dX8_rhymingShare_62 : decode cX8_rhymingShare 62 = .ok (.bipush 7, 2) := by decide +kernel
theorem dX8_rhymingShare_64 : decode cX8_rhymingShare 64 = .ok (.iaload, 1) := by decide +kernel
theorem dX8_rhymingShare_65 : decode cX8_rhymingShare 65 = .ok (.i2f, 1) := by decide +kernel
theorem dX8_rhymingShare_66 : decode cX8_rhymingShare 66 = .ok (.fdiv, 1) := by decide +kernel
theorem dX8_rhymingShare_67 : decode cX8_rhymingShare 67 = .ok (.freturn, 1) := by decide +kernel
theorem dX8_tracks_0 : decode cX8_tracks 0 = .ok (.aload_n 0, 1) := by decide +kernel
theorem dX8_tracks_1 : decode cX8_tracks 1 = .ok (.invokevirtual 225, 3) := by decide +kernel
theorem dX8_tracks_4 : decode cX8_tracks 4 = .ok (.aload_n 0, 1) := by decide +kernel
theorem dX8_tracks_5 : decode cX8_tracks 5 = .ok (.iload_n 1, 1) := by decide +kernel
theorem dX8_tracks_6 : decode cX8_tracks 6 = .ok (.putfield 37, 3) := by decide +kernel
theorem dX8_tracks_9 : decode cX8_tracks 9 = .ok (.return_, 1) := by decide +kernel
theorem dX8_balanceAfter_0 : decode cX8_balanceAfter 0 = .ok (.aload_n 0, 1) := by decide +kernel
theorem dX8_balanceAfter_1 : decode cX8_balanceAfter 1 = .ok (.iload_n 1, 1) := by decide +kernel
theorem dX8_balanceAfter_2 : decode cX8_balanceAfter 2 = .ok (.invokevirtual 249, 3) := by decide +kernel
theorem dX8_balanceAfter_5 : decode cX8_balanceAfter 5 = .ok (.ifCond .ne 9, 3) := by decide +kernel
theorem dX8_balanceAfter_8 : decode cX8_balanceAfter 8 = .ok (.aload_n 0, 1) := by decide +kernel
theorem dX8_balanceAfter_9 : decode cX8_balanceAfter 9 = .ok (.iconst 1, 1) := by decide +kernel
theorem dX8_balanceAfter_10 : decode cX8_balanceAfter 10 = .ok (.invokevirtual 216, 3) := by decide +kernel
theorem dX8_balanceAfter_13 : decode cX8_balanceAfter 13 = .ok (.ireturn, 1) := by decide +kernel
theorem dX8_balanceAfter_14 : decode cX8_balanceAfter 14 = .ok (.iload_n 2, 1) := by decide +kernel
theorem dX8_balanceAfter_15 : decode cX8_balanceAfter 15 = .ok (.iconst 0, 1) := by decide +kernel
theorem dX8_balanceAfter_16 : decode cX8_balanceAfter 16 = .ok (.bipush 100, 2) := by decide +kernel
theorem dX8_balanceAfter_18 : decode cX8_balanceAfter 18 = .ok (.invokestatic 66, 3) := by decide +kernel
theorem dX8_balanceAfter_21 : decode cX8_balanceAfter 21 = .ok (.ifCond .ne 9, 3) := by decide +kernel
theorem dX8_balanceAfter_24 : decode cX8_balanceAfter 24 = .ok (.aload_n 0, 1) := by decide +kernel
theorem dX8_balanceAfter_25 : decode cX8_balanceAfter 25 = .ok (.iconst 2, 1) := by decide +kernel
theorem dX8_balanceAfter_26 : decode cX8_balanceAfter 26 = .ok (.invokevirtual 216, 3) := by decide +kernel
theorem dX8_balanceAfter_29 : decode cX8_balanceAfter 29 = .ok (.ireturn, 1) := by decide +kernel
theorem dX8_balanceAfter_30 : decode cX8_balanceAfter 30 = .ok (.aload_n 0, 1) := by decide +kernel
theorem dX8_balanceAfter_31 : decode cX8_balanceAfter 31 = .ok (.iload_n 1, 1) := by decide +kernel
theorem dX8_balanceAfter_32 : decode cX8_balanceAfter 32 = .ok (.invokevirtual 273, 3) := by decide +kernel
theorem dX8_balanceAfter_35 : decode cX8_balanceAfter 35 = .ok (.aload_n 0, 1) := by decide +kernel
theorem dX8_balanceAfter_36 : decode cX8_balanceAfter 36 = .ok (.iload_n 2, 1) := by decide +kernel
theorem dX8_balanceAfter_37 : decode cX8_balanceAfter 37 = .ok (.invokevirtual 201, 3) := by decide +kernel
theorem dX8_balanceAfter_40 : decode cX8_balanceAfter 40 = .ok (.aload_n 0, 1) := by decide +kernel
theorem dX8_balanceAfter_41 : decode cX8_balanceAfter 41 = .ok (.getfield 37, 3) := by decide +kernel
theorem dX8_balanceAfter_44 : decode cX8_balanceAfter 44 = .ok (.iconst (-1), 1) := by decide +kernel
theorem dX8_balanceAfter_45 : decode cX8_balanceAfter 45 = .ok (.if_icmp .ne 10, 3) := by decide +kernel
theorem dX8_balanceAfter_48 : decode cX8_balanceAfter 48 = .ok (.aload_n 0, 1) := by decide +kernel
theorem dX8_balanceAfter_49 : decode cX8_balanceAfter 49 = .ok (.getfield 70, 3) := by decide +kernel
theorem dX8_balanceAfter_52 : decode cX8_balanceAfter 52 = .ok (.goto 17, 3) := by decide +kernel
theorem dX8_balanceAfter_55 : decode cX8_balanceAfter 55 = .ok (.aload_n 0, 1) := by decide +kernel
theorem dX8_balanceAfter_56 : decode cX8_balanceAfter 56 = .ok (.getfield 19, 3) := by decide +kernel
theorem dX8_balanceAfter_59 : decode cX8_balanceAfter 59 = .ok (.aload_n 0, 1) := by decide +kernel
theorem dX8_balanceAfter_60 : decode cX8_balanceAfter 60 = .ok (.getfield 37, 3) := by decide +kernel
theorem dX8_balanceAfter_63 : decode cX8_balanceAfter 63 = .ok (.invokestatic 56, 3) := by decide +kernel
theorem dX8_balanceAfter_66 : decode cX8_balanceAfter 66 = .ok (.iconst 1, 1) := by decide +kernel
theorem dX8_balanceAfter_67 : decode cX8_balanceAfter 67 = .ok (.iadd, 1) := by decide +kernel
theorem dX8_balanceAfter_68 : decode cX8_balanceAfter 68 = .ok (.iaload, 1) := by decide +kernel
theorem dX8_balanceAfter_69 : decode cX8_balanceAfter 69 = .ok (.istore_n 3, 1) := by decide +kernel
theorem dX8_balanceAfter_70 : decode cX8_balanceAfter 70 = .ok (.aload_n 0, 1) := by decide +kernel
theorem dX8_balanceAfter_71 : decode cX8_balanceAfter 71 = .ok (.invokevirtual 234, 3) := by decide +kernel
theorem dX8_balanceAfter_74 : decode cX8_balanceAfter 74 = .ok (.aload_n 0, 1) := by decide +kernel
theorem dX8_balanceAfter_75 : decode cX8_balanceAfter 75 = .ok (.iload_n 3, 1) := by decide +kernel
theorem dX8_balanceAfter_76 : decode cX8_balanceAfter 76 = .ok (.invokevirtual 222, 3) := by decide +kernel
theorem dX8_balanceAfter_79 : decode cX8_balanceAfter 79 = .ok (.ireturn, 1) := by decide +kernel
theorem dX8_distanceAfter_0 : decode cX8_distanceAfter 0 = .ok (.aload_n 0, 1) := by decide +kernel
theorem dX8_distanceAfter_1 : decode cX8_distanceAfter 1 = .ok (.iload_n 1, 1) := by decide +kernel
theorem dX8_distanceAfter_2 : decode cX8_distanceAfter 2 = .ok (.invokevirtual 249, 3) := by decide +kernel
theorem dX8_distanceAfter_5 : decode cX8_distanceAfter 5 = .ok (.ifCond .ne 9, 3) := by decide +kernel
theorem dX8_distanceAfter_8 : decode cX8_distanceAfter 8 = .ok (.aload_n 0, 1) := by decide +kernel
theorem dX8_distanceAfter_9 : decode cX8_distanceAfter 9 = .ok (.iconst 1, 1) := by decide +kernel
theorem dX8_distanceAfter_10 : decode cX8_distanceAfter 10 = .ok (.invokevirtual 216, 3) := by decide +kernel
theorem dX8_distanceAfter_13 : decode cX8_distanceAfter 13 = .ok (.ireturn, 1) := by decide +kernel
theorem dX8_distanceAfter_14 : decode cX8_distanceAfter 14 = .ok (.iload_n 2, 1) := by decide +kernel
theorem dX8_distanceAfter_15 : decode cX8_distanceAfter 15 = .ok (.iconst 0, 1) := by decide +kernel
theorem dX8_distanceAfter_16 : decode cX8_distanceAfter 16 = .ok (.bipush 100, 2) := by decide +kernel
theorem dX8_distanceAfter_18 : decode cX8_distanceAfter 18 = .ok (.invokestatic 66, 3) := by decide +kernel
theorem dX8_distanceAfter_21 : decode cX8_distanceAfter 21 = .ok (.ifCond .ne 9, 3) := by decide +kernel
theorem dX8_distanceAfter_24 : decode cX8_distanceAfter 24 = .ok (.aload_n 0, 1) := by decide +kernel
theorem dX8_distanceAfter_25 : decode cX8_distanceAfter 25 = .ok (.iconst 2, 1) := by decide +kernel
theorem dX8_distanceAfter_26 : decode cX8_distanceAfter 26 = .ok (.invokevirtual 216, 3) := by decide +kernel
theorem dX8_distanceAfter_29 : decode cX8_distanceAfter 29 = .ok (.ireturn, 1) := by decide +kernel
theorem dX8_distanceAfter_30 : decode cX8_distanceAfter 30 = .ok (.aload_n 0, 1) := by decide +kernel
theorem dX8_distanceAfter_31 : decode cX8_distanceAfter 31 = .ok (.iload_n 1, 1) := by decide +kernel
theorem dX8_distanceAfter_32 : decode cX8_distanceAfter 32 = .ok (.invokevirtual 273, 3) := by decide +kernel
theorem dX8_distanceAfter_35 : decode cX8_distanceAfter 35 = .ok (.aload_n 0, 1) := by decide +kernel
theorem dX8_distanceAfter_36 : decode cX8_distanceAfter 36 = .ok (.iload_n 2, 1) := by decide +kernel
theorem dX8_distanceAfter_37 : decode cX8_distanceAfter 37 = .ok (.invokevirtual 201, 3) := by decide +kernel
theorem dX8_distanceAfter_40 : decode cX8_distanceAfter 40 = .ok (.aload_n 0, 1) := by decide +kernel
theorem dX8_distanceAfter_41 : decode cX8_distanceAfter 41 = .ok (.getfield 37, 3) := by decide +kernel
theorem dX8_distanceAfter_44 : decode cX8_distanceAfter 44 = .ok (.iconst (-1), 1) := by decide +kernel
theorem dX8_distanceAfter_45 : decode cX8_distanceAfter 45 = .ok (.if_icmp .ne 7, 3) := by decide +kernel
theorem dX8_distanceAfter_48 : decode cX8_distanceAfter 48 = .ok (.iconst (-1), 1) := by decide +kernel
theorem dX8_distanceAfter_49 : decode cX8_distanceAfter 49 = .ok (.goto 11, 3) := by decide +kernel
theorem dX8_distanceAfter_52 : decode cX8_distanceAfter 52 = .ok (.aload_n 0, 1) := by decide +kernel
theorem dX8_distanceAfter_53 : decode cX8_distanceAfter 53 = .ok (.aload_n 0, 1) := by decide +kernel
theorem dX8_distanceAfter_54 : decode cX8_distanceAfter 54 = .ok (.getfield 37, 3) := by decide +kernel
theorem dX8_distanceAfter_57 : decode cX8_distanceAfter 57 = .ok (.invokevirtual 86, 3) := by decide +kernel
theorem dX8_distanceAfter_60 : decode cX8_distanceAfter 60 = .ok (.istore_n 3, 1) := by decide +kernel
theorem dX8_distanceAfter_61 : decode cX8_distanceAfter 61 = .ok (.aload_n 0, 1) := by decide +kernel
theorem dX8_distanceAfter_62 : decode cX8_distanceAfter 62 = .ok (.invokevirtual 234, 3) := by decide +kernel
theorem dX8_distanceAfter_65 : decode cX8_distanceAfter 65 = .ok (.aload_n 0, 1) := by decide +kernel
theorem dX8_distanceAfter_66 : decode cX8_distanceAfter 66 = .ok (.iload_n 3, 1) := by decide +kernel
theorem dX8_distanceAfter_67 : decode cX8_distanceAfter 67 = .ok (.invokevirtual 222, 3) := by decide +kernel
theorem dX8_distanceAfter_70 : decode cX8_distanceAfter 70 = .ok (.ireturn, 1) := by decide +kernel
theorem dX8_daysToEviction_0 : decode cX8_daysToEviction 0 = .ok (.aload_n 0, 1) := by decide +kernel
theorem dX8_daysToEviction_1 : decode cX8_daysToEviction 1 = .ok (.iload_n 1, 1) := by decide +kernel
theorem dX8_daysToEviction_2 : decode cX8_daysToEviction 2 = .ok (.invokevirtual 249, 3) := by decide +kernel
theorem dX8_daysToEviction_5 : decode cX8_daysToEviction 5 = .ok (.ifCond .ne 9, 3) := by decide +kernel
theorem dX8_daysToEviction_8 : decode cX8_daysToEviction 8 = .ok (.aload_n 0, 1) := by decide +kernel
theorem dX8_daysToEviction_9 : decode cX8_daysToEviction 9 = .ok (.iconst 1, 1) := by decide +kernel
theorem dX8_daysToEviction_10 : decode cX8_daysToEviction 10 = .ok (.invokevirtual 216, 3) := by decide +kernel
theorem dX8_daysToEviction_13 : decode cX8_daysToEviction 13 = .ok (.ireturn, 1) := by decide +kernel
theorem dX8_daysToEviction_14 : decode cX8_daysToEviction 14 = .ok (.aload_n 0, 1) := by decide +kernel
theorem dX8_daysToEviction_15 : decode cX8_daysToEviction 15 = .ok (.iload_n 1, 1) := by decide +kernel
theorem dX8_daysToEviction_16 : decode cX8_daysToEviction 16 = .ok (.invokevirtual 273, 3) := by decide +kernel
theorem dX8_daysToEviction_19 : decode cX8_daysToEviction 19 = .ok (.iconst 0, 1) := by decide +kernel
theorem dX8_daysToEviction_20 : decode cX8_daysToEviction 20 = .ok (.istore_n 2, 1) := by decide +kernel
theorem dX8_daysToEviction_21 : decode cX8_daysToEviction 21 = .ok (.aload_n 0, 1) := by decide +kernel
theorem dX8_daysToEviction_22 : decode cX8_daysToEviction 22 = .ok (.getfield 37, 3) := by decide +kernel
theorem dX8_daysToEviction_25 : decode cX8_daysToEviction 25 = .ok (.iconst (-1), 1) := by decide +kernel
theorem dX8_daysToEviction_26 : decode cX8_daysToEviction 26 = .ok (.if_icmp .eq 19, 3) := by decide +kernel
theorem dX8_daysToEviction_29 : decode cX8_daysToEviction 29 = .ok (.iload_n 2, 1) := by decide +kernel
theorem dX8_daysToEviction_30 : decode cX8_daysToEviction 30 = .ok (.bipush 100, 2) := by decide +kernel
theorem dX8_daysToEviction_32 : decode cX8_daysToEviction 32 = .ok (.if_icmp .ge 13, 3) := by decide +kernel
theorem dX8_daysToEviction_35 : decode cX8_daysToEviction 35 = .ok (.aload_n 0, 1) := by decide +kernel
theorem dX8_daysToEviction_36 : decode cX8_daysToEviction 36 = .ok (.invokevirtual 60, 3) := by decide +kernel
theorem dX8_daysToEviction_39 : decode cX8_daysToEviction 39 = .ok (.iinc 2 1, 3) := by decide +kernel
theorem dX8_daysToEviction_42 : decode cX8_daysToEviction 42 = .ok (.goto (-21), 3) := by decide +kernel
theorem dX8_daysToEviction_45 : decode cX8_daysToEviction 45 = .ok (.aload_n 0, 1) := by decide +kernel
theorem dX8_daysToEviction_46 : decode cX8_daysToEviction 46 = .ok (.getfield 37, 3) := by decide +kernel
theorem dX8_daysToEviction_49 : decode cX8_daysToEviction 49 = .ok (.iconst (-1), 1) := by decide +kernel
theorem dX8_daysToEviction_50 : decode cX8_daysToEviction 50 = .ok (.if_icmp .ne 7, 3) := by decide +kernel
theorem dX8_daysToEviction_53 : decode cX8_daysToEviction 53 = .ok (.iconst 1, 1) := by decide +kernel
theorem dX8_daysToEviction_54 : decode cX8_daysToEviction 54 = .ok (.goto 4, 3) := by decide +kernel
theorem dX8_daysToEviction_57 : decode cX8_daysToEviction 57 = .ok (.iconst 0, 1) := by decide +kernel
theorem dX8_daysToEviction_58 : decode cX8_daysToEviction 58 = .ok (.istore_n 3, 1) := by decide +kernel
theorem dX8_daysToEviction_59 : decode cX8_daysToEviction 59 = .ok (.aload_n 0, 1) := by decide +kernel
theorem dX8_daysToEviction_60 : decode cX8_daysToEviction 60 = .ok (.invokevirtual 234, 3) := by decide +kernel
theorem dX8_daysToEviction_63 : decode cX8_daysToEviction 63 = .ok (.aload_n 0, 1) := by decide +kernel
theorem dX8_daysToEviction_64 : decode cX8_daysToEviction 64 = .ok (.iload_n 3, 1) := by decide +kernel
theorem dX8_daysToEviction_65 : decode cX8_daysToEviction 65 = .ok (.ifCond .eq 7, 3) := by decide +kernel
theorem dX8_daysToEviction_68 : decode cX8_daysToEviction 68 = .ok (.iload_n 2, 1) := by decide +kernel
theorem dX8_daysToEviction_69 : decode cX8_daysToEviction 69 = .ok (.goto 4, 3) := by decide +kernel
theorem dX8_daysToEviction_72 : decode cX8_daysToEviction 72 = .ok (.iconst (-1), 1) := by decide +kernel
theorem dX8_daysToEviction_73 : decode cX8_daysToEviction 73 = .ok (.invokevirtual 222, 3) := by decide +kernel
theorem dX8_daysToEviction_76 : decode cX8_daysToEviction 76 = .ok (.ireturn, 1) := by decide +kernel
theorem dX8_staysWith_0 : decode cX8_staysWith 0 = .ok (.aload_n 0, 1) := by decide +kernel
theorem dX8_staysWith_1 : decode cX8_staysWith 1 = .ok (.invokevirtual 246, 3) := by decide +kernel
theorem dX8_staysWith_4 : decode cX8_staysWith 4 = .ok (.istore_n 3, 1) := by decide +kernel
theorem dX8_staysWith_5 : decode cX8_staysWith 5 = .ok (.aload_n 0, 1) := by decide +kernel
theorem dX8_staysWith_6 : decode cX8_staysWith 6 = .ok (.iload_n 1, 1) := by decide +kernel
theorem dX8_staysWith_7 : decode cX8_staysWith 7 = .ok (.invokevirtual 273, 3) := by decide +kernel
theorem dX8_staysWith_10 : decode cX8_staysWith 10 = .ok (.aload_n 0, 1) := by decide +kernel
theorem dX8_staysWith_11 : decode cX8_staysWith 11 = .ok (.getfield 19, 3) := by decide +kernel
theorem dX8_staysWith_14 : decode cX8_staysWith 14 = .ok (.iload_n 1, 1) := by decide +kernel
theorem dX8_staysWith_15 : decode cX8_staysWith 15 = .ok (.invokestatic 56, 3) := by decide +kernel
theorem dX8_staysWith_18 : decode cX8_staysWith 18 = .ok (.iconst 1, 1) := by decide +kernel
theorem dX8_staysWith_19 : decode cX8_staysWith 19 = .ok (.iadd, 1) := by decide +kernel
theorem dX8_staysWith_20 : decode cX8_staysWith 20 = .ok (.dup2, 1) := by decide +kernel
theorem dX8_staysWith_21 : decode cX8_staysWith 21 = .ok (.iaload, 1) := by decide +kernel
theorem dX8_staysWith_22 : decode cX8_staysWith 22 = .ok (.iload_n 2, 1) := by decide +kernel
theorem dX8_staysWith_23 : decode cX8_staysWith 23 = .ok (.iadd, 1) := by decide +kernel
theorem dX8_staysWith_24 : decode cX8_staysWith 24 = .ok (.iastore, 1) := by decide +kernel
theorem dX8_staysWith_25 : decode cX8_staysWith 25 = .ok (.aload_n 0, 1) := by decide +kernel
theorem dX8_staysWith_26 : decode cX8_staysWith 26 = .ok (.iload_n 3, 1) := by decide +kernel
theorem dX8_staysWith_27 : decode cX8_staysWith 27 = .ok (.invokevirtual 201, 3) := by decide +kernel
theorem dX8_staysWith_30 : decode cX8_staysWith 30 = .ok (.aload_n 0, 1) := by decide +kernel
theorem dX8_staysWith_31 : decode cX8_staysWith 31 = .ok (.getfield 37, 3) := by decide +kernel
theorem dX8_staysWith_34 : decode cX8_staysWith 34 = .ok (.iconst (-1), 1) := by decide +kernel
theorem dX8_staysWith_35 : decode cX8_staysWith 35 = .ok (.if_icmp .eq 7, 3) := by decide +kernel
theorem dX8_staysWith_38 : decode cX8_staysWith 38 = .ok (.iconst 1, 1) := by decide +kernel
theorem dX8_staysWith_39 : decode cX8_staysWith 39 = .ok (.goto 4, 3) := by decide +kernel
theorem dX8_staysWith_42 : decode cX8_staysWith 42 = .ok (.iconst 0, 1) := by decide +kernel
theorem dX8_staysWith_43 : decode cX8_staysWith 43 = .ok (.istore 4, 2) := by decide +kernel
theorem dX8_staysWith_45 : decode cX8_staysWith 45 = .ok (.aload_n 0, 1) := by decide +kernel
theorem dX8_staysWith_46 : decode cX8_staysWith 46 = .ok (.invokevirtual 234, 3) := by decide +kernel
theorem dX8_staysWith_49 : decode cX8_staysWith 49 = .ok (.iload 4, 2) := by decide +kernel
theorem dX8_staysWith_51 : decode cX8_staysWith 51 = .ok (.ireturn, 1) := by decide +kernel
theorem dX8_paymentToStay_0 : decode cX8_paymentToStay 0 = .ok (.aload_n 0, 1) := by decide +kernel
theorem dX8_paymentToStay_1 : decode cX8_paymentToStay 1 = .ok (.iload_n 1, 1) := by decide +kernel
theorem dX8_paymentToStay_2 : decode cX8_paymentToStay 2 = .ok (.invokevirtual 249, 3) := by decide +kernel
theorem dX8_paymentToStay_5 : decode cX8_paymentToStay 5 = .ok (.ifCond .ne 9, 3) := by decide +kernel
theorem dX8_paymentToStay_8 : decode cX8_paymentToStay 8 = .ok (.aload_n 0, 1) := by decide +kernel
theorem dX8_paymentToStay_9 : decode cX8_paymentToStay 9 = .ok (.iconst 1, 1) := by decide +kernel
theorem dX8_paymentToStay_10 : decode cX8_paymentToStay 10 = .ok (.invokevirtual 216, 3) := by decide +kernel
theorem dX8_paymentToStay_13 : decode cX8_paymentToStay 13 = .ok (.ireturn, 1) := by decide +kernel
theorem dX8_paymentToStay_14 : decode cX8_paymentToStay 14 = .ok (.aload_n 0, 1) := by decide +kernel
theorem dX8_paymentToStay_15 : decode cX8_paymentToStay 15 = .ok (.iload_n 1, 1) := by decide +kernel
theorem dX8_paymentToStay_16 : decode cX8_paymentToStay 16 = .ok (.iconst 0, 1) := by decide +kernel
theorem dX8_paymentToStay_17 : decode cX8_paymentToStay 17 = .ok (.invokevirtual 276, 3) := by decide +kernel
theorem dX8_paymentToStay_20 : decode cX8_paymentToStay 20 = .ok (.ifCond .eq 9, 3) := by decide +kernel
theorem dX8_paymentToStay_23 : decode cX8_paymentToStay 23 = .ok (.aload_n 0, 1) := by decide +kernel
theorem dX8_paymentToStay_24 : decode cX8_paymentToStay 24 = .ok (.iconst 0, 1) := by decide +kernel
theorem dX8_paymentToStay_25 : decode cX8_paymentToStay 25 = .ok (.invokevirtual 222, 3) := by decide +kernel
theorem dX8_paymentToStay_28 : decode cX8_paymentToStay 28 = .ok (.ireturn, 1) := by decide +kernel
theorem dX8_paymentToStay_29 : decode cX8_paymentToStay 29 = .ok (.aload_n 0, 1) := by decide +kernel
theorem dX8_paymentToStay_30 : decode cX8_paymentToStay 30 = .ok (.getfield 19, 3) := by decide +kernel
theorem dX8_paymentToStay_33 : decode cX8_paymentToStay 33 = .ok (.iload_n 1, 1) := by decide +kernel
theorem dX8_paymentToStay_34 : decode cX8_paymentToStay 34 = .ok (.invokestatic 56, 3) := by decide +kernel
theorem dX8_paymentToStay_37 : decode cX8_paymentToStay 37 = .ok (.iconst 1, 1) := by decide +kernel
theorem dX8_paymentToStay_38 : decode cX8_paymentToStay 38 = .ok (.iadd, 1) := by decide +kernel
theorem dX8_paymentToStay_39 : decode cX8_paymentToStay 39 = .ok (.iaload, 1) := by decide +kernel
theorem dX8_paymentToStay_40 : decode cX8_paymentToStay 40 = .ok (.istore_n 2, 1) := by decide +kernel
theorem dX8_paymentToStay_41 : decode cX8_paymentToStay 41 = .ok (.aload_n 0, 1) := by decide +kernel
theorem dX8_paymentToStay_42 : decode cX8_paymentToStay 42 = .ok (.aload_n 0, 1) := by decide +kernel
theorem dX8_paymentToStay_43 : decode cX8_paymentToStay 43 = .ok (.getfield 19, 3) := by decide +kernel
theorem dX8_paymentToStay_46 : decode cX8_paymentToStay 46 = .ok (.iload_n 1, 1) := by decide +kernel
theorem dX8_paymentToStay_47 : decode cX8_paymentToStay 47 = .ok (.invokestatic 56, 3) := by decide +kernel
theorem dX8_paymentToStay_50 : decode cX8_paymentToStay 50 = .ok (.iconst 0, 1) := by decide +kernel
theorem dX8_paymentToStay_51 : decode cX8_paymentToStay 51 = .ok (.iadd, 1) := by decide +kernel
theorem dX8_paymentToStay_52 : decode cX8_paymentToStay 52 = .ok (.iaload, 1) := by decide +kernel
theorem dX8_paymentToStay_53 : decode cX8_paymentToStay 53 = .ok (.invokevirtual 93, 3) := by decide +kernel
theorem dX8_paymentToStay_56 : decode cX8_paymentToStay 56 = .ok (.istore_n 3, 1) := by decide +kernel
theorem dX8_paymentToStay_57 : decode cX8_paymentToStay 57 = .ok (.iconst 1, 1) := by decide +kernel
theorem dX8_paymentToStay_58 : decode cX8_paymentToStay 58 = .ok (.istore 4, 2) := by decide +kernel
theorem dX8_paymentToStay_60 : decode cX8_paymentToStay 60 = .ok (.iload 4, 2) := by decide +kernel
theorem dX8_paymentToStay_62 : decode cX8_paymentToStay 62 = .ok (.aload_n 0, 1) := by decide +kernel
theorem dX8_paymentToStay_63 : decode cX8_paymentToStay 63 = .ok (.invokevirtual 246, 3) := by decide +kernel
theorem dX8_paymentToStay_66 : decode cX8_paymentToStay 66 = .ok (.if_icmp .gt 46, 3) := by decide +kernel
theorem dX8_paymentToStay_69 : decode cX8_paymentToStay 69 = .ok (.iload_n 3, 1) := by decide +kernel
theorem dX8_paymentToStay_70 : decode cX8_paymentToStay 70 = .ok (.iload 4, 2) := by decide +kernel
theorem dX8_paymentToStay_72 : decode cX8_paymentToStay 72 = .ok (.imul, 1) := by decide +kernel
theorem dX8_paymentToStay_73 : decode cX8_paymentToStay 73 = .ok (.iload_n 2, 1) := by decide +kernel
theorem dX8_paymentToStay_74 : decode cX8_paymentToStay 74 = .ok (.isub, 1) := by decide +kernel
theorem dX8_paymentToStay_75 : decode cX8_paymentToStay 75 = .ok (.istore 5, 2) := by decide +kernel
theorem dX8_paymentToStay_77 : decode cX8_paymentToStay 77 = .ok (.iload 5, 2) := by decide +kernel
theorem dX8_paymentToStay_79 : decode cX8_paymentToStay 79 = .ok (.iconst 1, 1) := by decide +kernel
theorem dX8_paymentToStay_80 : decode cX8_paymentToStay 80 = .ok (.sipush 999, 3) := by decide +kernel
theorem dX8_paymentToStay_83 : decode cX8_paymentToStay 83 = .ok (.invokestatic 66, 3) := by decide +kernel
theorem dX8_paymentToStay_86 : decode cX8_paymentToStay 86 = .ok (.ifCond .eq 20, 3) := by decide +kernel
theorem dX8_paymentToStay_89 : decode cX8_paymentToStay 89 = .ok (.aload_n 0, 1) := by decide +kernel
theorem dX8_paymentToStay_90 : decode cX8_paymentToStay 90 = .ok (.iload_n 1, 1) := by decide +kernel
theorem dX8_paymentToStay_91 : decode cX8_paymentToStay 91 = .ok (.iload 5, 2) := by decide +kernel
theorem dX8_paymentToStay_93 : decode cX8_paymentToStay 93 = .ok (.invokevirtual 276, 3) := by decide +kernel
theorem dX8_paymentToStay_96 : decode cX8_paymentToStay 96 = .ok (.ifCond .eq 10, 3) := by decide +kernel
theorem dX8_paymentToStay_99 : decode cX8_paymentToStay 99 = .ok (.aload_n 0, 1) := by decide +kernel
theorem dX8_paymentToStay_100 : decode cX8_paymentToStay 100 = .ok (.iload 5, 2) := by decide +kernel
theorem dX8_paymentToStay_102 : decode cX8_paymentToStay 102 = .ok (.invokevirtual 222, 3) := by decide +kernel
theorem dX8_paymentToStay_105 : decode cX8_paymentToStay 105 = .ok (.ireturn, 1) := by decide +kernel
theorem dX8_paymentToStay_106 : decode cX8_paymentToStay 106 = .ok (.iinc 4 1, 3) := by decide +kernel
theorem dX8_paymentToStay_109 : decode cX8_paymentToStay 109 = .ok (.goto (-49), 3) := by decide +kernel
theorem dX8_paymentToStay_112 : decode cX8_paymentToStay 112 = .ok (.aload_n 0, 1) := by decide +kernel
theorem dX8_paymentToStay_113 : decode cX8_paymentToStay 113 = .ok (.iconst (-1), 1) := by decide +kernel
theorem dX8_paymentToStay_114 : decode cX8_paymentToStay 114 = .ok (.invokevirtual 222, 3) := by decide +kernel
theorem dX8_paymentToStay_117 : decode cX8_paymentToStay 117 = .ok (.ireturn, 1) := by decide +kernel
theorem dX8_totalPaid_0 : decode cX8_totalPaid 0 = .ok (.aload_n 0, 1) := by decide +kernel
theorem dX8_totalPaid_1 : decode cX8_totalPaid 1 = .ok (.aload_n 0, 1) := by decide +kernel
theorem dX8_totalPaid_2 : decode cX8_totalPaid 2 = .ok (.getfield 19, 3) := by decide +kernel
theorem dX8_totalPaid_5 : decode cX8_totalPaid 5 = .ok (.bipush 10, 2) := by decide +kernel
theorem dX8_totalPaid_7 : decode cX8_totalPaid 7 = .ok (.iaload, 1) := by decide +kernel
theorem dX8_totalPaid_8 : decode cX8_totalPaid 8 = .ok (.invokevirtual 222, 3) := by decide +kernel
theorem dX8_totalPaid_11 : decode cX8_totalPaid 11 = .ok (.ireturn, 1) := by decide +kernel
theorem dX8_totalCharged_0 : decode cX8_totalCharged 0 = .ok (.aload_n 0, 1) := by decide +kernel
theorem dX8_totalCharged_1 : decode cX8_totalCharged 1 = .ok (.aload_n 0, 1) := by decide +kernel
theorem dX8_totalCharged_2 : decode cX8_totalCharged 2 = .ok (.getfield 19, 3) := by decide +kernel
theorem dX8_totalCharged_5 : decode cX8_totalCharged 5 = .ok (.bipush 11, 2) := by decide +kernel
theorem dX8_totalCharged_7 : decode cX8_totalCharged 7 = .ok (.iaload, 1) := by decide +kernel
theorem dX8_totalCharged_8 : decode cX8_totalCharged 8 = .ok (.invokevirtual 222, 3) := by decide +kernel
theorem dX8_totalCharged_11 : decode cX8_totalCharged 11 = .ok (.ireturn, 1) := by decide +kernel
theorem dX8_settled_0 : decode cX8_settled 0 = .ok (.aload_n 0, 1) := by decide +kernel
theorem dX8_settled_1 : decode cX8_settled 1 = .ok (.aload_n 0, 1) := by decide +kernel
theorem dX8_settled_2 : decode cX8_settled 2 = .ok (.getfield 19, 3) := by decide +kernel
theorem dX8_settled_5 : decode cX8_settled 5 = .ok (.bipush 12, 2) := by decide +kernel
theorem dX8_settled_7 : decode cX8_settled 7 = .ok (.iaload, 1) := by decide +kernel
theorem dX8_settled_8 : decode cX8_settled 8 = .ok (.invokevirtual 222, 3) := by decide +kernel
theorem dX8_settled_11 : decode cX8_settled 11 = .ok (.ireturn, 1) := by decide +kernel
theorem dX8_ledgerDifference_0 : decode cX8_ledgerDifference 0 = .ok (.aload_n 0, 1) := by decide +kernel
theorem dX8_ledgerDifference_1 : decode cX8_ledgerDifference 1 = .ok (.getfield 19, 3) := by decide +kernel
theorem dX8_ledgerDifference_4 : decode cX8_ledgerDifference 4 = .ok (.bipush 12, 2) := by decide +kernel
theorem dX8_ledgerDifference_6 : decode cX8_ledgerDifference 6 = .ok (.iaload, 1) := by decide +kernel
theorem dX8_ledgerDifference_7 : decode cX8_ledgerDifference 7 = .ok (.aload_n 0, 1) := by decide +kernel
theorem dX8_ledgerDifference_8 : decode cX8_ledgerDifference 8 = .ok (.getfield 19, 3) := by decide +kernel
theorem dX8_ledgerDifference_11 : decode cX8_ledgerDifference 11 = .ok (.bipush 10, 2) := by decide +kernel
theorem dX8_ledgerDifference_13 : decode cX8_ledgerDifference 13 = .ok (.iaload, 1) := by decide +kernel
theorem dX8_ledgerDifference_14 : decode cX8_ledgerDifference 14 = .ok (.isub, 1) := by decide +kernel
theorem dX8_ledgerDifference_15 : decode cX8_ledgerDifference 15 = .ok (.aload_n 0, 1) := by decide +kernel
theorem dX8_ledgerDifference_16 : decode cX8_ledgerDifference 16 = .ok (.getfield 19, 3) := by decide +kernel
theorem dX8_ledgerDifference_19 : decode cX8_ledgerDifference 19 = .ok (.bipush 11, 2) := by decide +kernel
theorem dX8_ledgerDifference_21 : decode cX8_ledgerDifference 21 = .ok (.iaload, 1) := by decide +kernel
theorem dX8_ledgerDifference_22 : decode cX8_ledgerDifference 22 = .ok (.iadd, 1) := by decide +kernel
theorem dX8_ledgerDifference_23 : decode cX8_ledgerDifference 23 = .ok (.istore_n 1, 1) := by decide +kernel
theorem dX8_ledgerDifference_24 : decode cX8_ledgerDifference 24 = .ok (.iconst 0, 1) := by decide +kernel
theorem dX8_ledgerDifference_25 : decode cX8_ledgerDifference 25 = .ok (.istore_n 2, 1) := by decide +kernel
theorem dX8_ledgerDifference_26 : decode cX8_ledgerDifference 26 = .ok (.iload_n 2, 1) := by decide +kernel
theorem dX8_ledgerDifference_27 : decode cX8_ledgerDifference 27 = .ok (.aload_n 0, 1) := by decide +kernel
theorem dX8_ledgerDifference_28 : decode cX8_ledgerDifference 28 = .ok (.getfield 19, 3) := by decide +kernel
theorem dX8_ledgerDifference_31 : decode cX8_ledgerDifference 31 = .ok (.bipush 7, 2) := by decide +kernel
theorem dX8_ledgerDifference_33 : decode cX8_ledgerDifference 33 = .ok (.iaload, 1) := by decide +kernel
theorem dX8_ledgerDifference_34 : decode cX8_ledgerDifference 34 = .ok (.if_icmp .ge 23, 3) := by decide +kernel
theorem dX8_ledgerDifference_37 : decode cX8_ledgerDifference 37 = .ok (.iload_n 1, 1) := by decide +kernel
theorem dX8_ledgerDifference_38 : decode cX8_ledgerDifference 38 = .ok (.aload_n 0, 1) := by decide +kernel
theorem dX8_ledgerDifference_39 : decode cX8_ledgerDifference 39 = .ok (.getfield 19, 3) := by decide +kernel
theorem dX8_ledgerDifference_42 : decode cX8_ledgerDifference 42 = .ok (.iload_n 2, 1) := by decide +kernel
theorem dX8_ledgerDifference_43 : decode cX8_ledgerDifference 43 = .ok (.invokestatic 56, 3) := by decide +kernel
theorem dX8_ledgerDifference_46 : decode cX8_ledgerDifference 46 = .ok (.iconst 1, 1) := by decide +kernel
theorem dX8_ledgerDifference_47 : decode cX8_ledgerDifference 47 = .ok (.iadd, 1) := by decide +kernel
theorem dX8_ledgerDifference_48 : decode cX8_ledgerDifference 48 = .ok (.iaload, 1) := by decide +kernel
theorem dX8_ledgerDifference_49 : decode cX8_ledgerDifference 49 = .ok (.iadd, 1) := by decide +kernel
theorem dX8_ledgerDifference_50 : decode cX8_ledgerDifference 50 = .ok (.istore_n 1, 1) := by decide +kernel
theorem dX8_ledgerDifference_51 : decode cX8_ledgerDifference 51 = .ok (.iinc 2 1, 3) := by decide +kernel
theorem dX8_ledgerDifference_54 : decode cX8_ledgerDifference 54 = .ok (.goto (-28), 3) := by decide +kernel
theorem dX8_ledgerDifference_57 : decode cX8_ledgerDifference 57 = .ok (.aload_n 0, 1) := by decide +kernel
theorem dX8_ledgerDifference_58 : decode cX8_ledgerDifference 58 = .ok (.iload_n 1, 1) := by decide +kernel
theorem dX8_ledgerDifference_59 : decode cX8_ledgerDifference 59 = .ok (.invokevirtual 222, 3) := by decide +kernel
theorem dX8_ledgerDifference_62 : decode cX8_ledgerDifference 62 = .ok (.ireturn, 1) := by decide +kernel
theorem dX8_advance_0 : decode cX8_advance 0 = .ok (.iload_n 1, 1) := by decide +kernel
theorem dX8_advance_1 : decode cX8_advance 1 = .ok (.iconst 1, 1) := by decide +kernel
theorem dX8_advance_2 : decode cX8_advance 2 = .ok (.bipush 100, 2) := by decide +kernel
theorem dX8_advance_4 : decode cX8_advance 4 = .ok (.invokestatic 66, 3) := by decide +kernel
theorem dX8_advance_7 : decode cX8_advance 7 = .ok (.ifCond .ne 9, 3) := by decide +kernel
theorem dX8_advance_10 : decode cX8_advance 10 = .ok (.aload_n 0, 1) := by decide +kernel
theorem dX8_advance_11 : decode cX8_advance 11 = .ok (.iconst 1, 1) := by decide +kernel
theorem dX8_advance_12 : decode cX8_advance 12 = .ok (.invokevirtual 216, 3) := by decide +kernel
theorem dX8_advance_15 : decode cX8_advance 15 = .ok (.ireturn, 1) := by decide +kernel
theorem dX8_advance_16 : decode cX8_advance 16 = .ok (.aload_n 0, 1) := by decide +kernel
theorem dX8_advance_17 : decode cX8_advance 17 = .ok (.getfield 19, 3) := by decide +kernel
theorem dX8_advance_20 : decode cX8_advance 20 = .ok (.bipush 8, 2) := by decide +kernel
theorem dX8_advance_22 : decode cX8_advance 22 = .ok (.iaload, 1) := by decide +kernel
theorem dX8_advance_23 : decode cX8_advance 23 = .ok (.iload_n 1, 1) := by decide +kernel
theorem dX8_advance_24 : decode cX8_advance 24 = .ok (.iadd, 1) := by decide +kernel
theorem dX8_advance_25 : decode cX8_advance 25 = .ok (.sipush 9999, 3) := by decide +kernel
theorem dX8_advance_28 : decode cX8_advance 28 = .ok (.if_icmp .le 9, 3) := by decide +kernel
theorem dX8_advance_31 : decode cX8_advance 31 = .ok (.aload_n 0, 1) := by decide +kernel
theorem dX8_advance_32 : decode cX8_advance 32 = .ok (.iconst 2, 1) := by decide +kernel
theorem dX8_advance_33 : decode cX8_advance 33 = .ok (.invokevirtual 216, 3) := by decide +kernel
theorem dX8_advance_36 : decode cX8_advance 36 = .ok (.ireturn, 1) := by decide +kernel
theorem dX8_advance_37 : decode cX8_advance 37 = .ok (.aload_n 0, 1) := by decide +kernel
theorem dX8_advance_38 : decode cX8_advance 38 = .ok (.invokevirtual 279, 3) := by decide +kernel
theorem dX8_advance_41 : decode cX8_advance 41 = .ok (.aload_n 0, 1) := by decide +kernel
theorem dX8_advance_42 : decode cX8_advance 42 = .ok (.getfield 19, 3) := by decide +kernel
theorem dX8_advance_45 : decode cX8_advance 45 = .ok (.bipush 9, 2) := by decide +kernel
theorem dX8_advance_47 : decode cX8_advance 47 = .ok (.iaload, 1) := by decide +kernel
theorem dX8_advance_48 : decode cX8_advance 48 = .ok (.istore_n 2, 1) := by decide +kernel
theorem dX8_advance_49 : decode cX8_advance 49 = .ok (.aload_n 0, 1) := by decide +kernel
theorem dX8_advance_50 : decode cX8_advance 50 = .ok (.iload_n 1, 1) := by decide +kernel
theorem dX8_advance_51 : decode cX8_advance 51 = .ok (.invokevirtual 201, 3) := by decide +kernel
theorem dX8_advance_54 : decode cX8_advance 54 = .ok (.aload_n 0, 1) := by decide +kernel
theorem dX8_advance_55 : decode cX8_advance 55 = .ok (.aload_n 0, 1) := by decide +kernel
theorem dX8_advance_56 : decode cX8_advance 56 = .ok (.getfield 19, 3) := by decide +kernel
theorem dX8_advance_59 : decode cX8_advance 59 = .ok (.bipush 9, 2) := by decide +kernel
theorem dX8_advance_61 : decode cX8_advance 61 = .ok (.iaload, 1) := by decide +kernel
theorem dX8_advance_62 : decode cX8_advance 62 = .ok (.iload_n 2, 1) := by decide +kernel
theorem dX8_advance_63 : decode cX8_advance 63 = .ok (.isub, 1) := by decide +kernel
theorem dX8_advance_64 : decode cX8_advance 64 = .ok (.invokevirtual 222, 3) := by decide +kernel
theorem dX8_advance_67 : decode cX8_advance 67 = .ok (.ireturn, 1) := by decide +kernel
theorem dX8_isTakenLetter_0 : decode cX8_isTakenLetter 0 = .ok (.iconst 0, 1) := by decide +kernel
theorem dX8_isTakenLetter_1 : decode cX8_isTakenLetter 1 = .ok (.istore_n 2, 1) := by decide +kernel
theorem dX8_isTakenLetter_2 : decode cX8_isTakenLetter 2 = .ok (.iload_n 2, 1) := by decide +kernel
theorem dX8_isTakenLetter_3 : decode cX8_isTakenLetter 3 = .ok (.aload_n 0, 1) := by decide +kernel
theorem dX8_isTakenLetter_4 : decode cX8_isTakenLetter 4 = .ok (.getfield 19, 3) := by decide +kernel
theorem dX8_isTakenLetter_7 : decode cX8_isTakenLetter 7 = .ok (.bipush 7, 2) := by decide +kernel
theorem dX8_isTakenLetter_9 : decode cX8_isTakenLetter 9 = .ok (.iaload, 1) := by decide +kernel
theorem dX8_isTakenLetter_10 : decode cX8_isTakenLetter 10 = .ok (.if_icmp .ge 36, 3) := by decide +kernel
theorem dX8_isTakenLetter_13 : decode cX8_isTakenLetter 13 = .ok (.aload_n 0, 1) := by decide +kernel
theorem dX8_isTakenLetter_14 : decode cX8_isTakenLetter 14 = .ok (.getfield 19, 3) := by decide +kernel
theorem dX8_isTakenLetter_17 : decode cX8_isTakenLetter 17 = .ok (.iload_n 2, 1) := by decide +kernel
theorem dX8_isTakenLetter_18 : decode cX8_isTakenLetter 18 = .ok (.invokestatic 56, 3) := by decide +kernel
theorem dX8_isTakenLetter_21 : decode cX8_isTakenLetter 21 = .ok (.bipush 10, 2) := by decide +kernel
theorem dX8_isTakenLetter_23 : decode cX8_isTakenLetter 23 = .ok (.iadd, 1) := by decide +kernel
theorem dX8_isTakenLetter_24 : decode cX8_isTakenLetter 24 = .ok (.iaload, 1) := by decide +kernel
theorem dX8_isTakenLetter_25 : decode cX8_isTakenLetter 25 = .ok (.iload_n 1, 1) := by decide +kernel
theorem dX8_isTakenLetter_26 : decode cX8_isTakenLetter 26 = .ok (.if_icmp .ne 14, 3) := by decide +kernel
theorem dX8_isTakenLetter_29 : decode cX8_isTakenLetter 29 = .ok (.aload_n 0, 1) := by decide +kernel
theorem dX8_isTakenLetter_30 : decode cX8_isTakenLetter 30 = .ok (.iload_n 2, 1) := by decide +kernel
theorem dX8_isTakenLetter_31 : decode cX8_isTakenLetter 31 = .ok (.invokevirtual 255, 3) := by decide +kernel
theorem dX8_isTakenLetter_34 : decode cX8_isTakenLetter 34 = .ok (.iconst 1, 1) := by decide +kernel
theorem dX8_isTakenLetter_35 : decode cX8_isTakenLetter 35 = .ok (.if_icmp .ne 5, 3) := by decide +kernel
theorem dX8_isTakenLetter_38 : decode cX8_isTakenLetter 38 = .ok (.iconst 1, 1) := by decide +kernel
theorem dX8_isTakenLetter_39 : decode cX8_isTakenLetter 39 = .ok (.ireturn, 1) := by decide +kernel
theorem dX8_isTakenLetter_40 : decode cX8_isTakenLetter 40 = .ok (.iinc 2 1, 3) := by decide +kernel
theorem dX8_isTakenLetter_43 : decode cX8_isTakenLetter 43 = .ok (.goto (-41), 3) := by decide +kernel
theorem dX8_isTakenLetter_46 : decode cX8_isTakenLetter 46 = .ok (.iconst 0, 1) := by decide +kernel
theorem dX8_isTakenLetter_47 : decode cX8_isTakenLetter 47 = .ok (.ireturn, 1) := by decide +kernel
theorem dX8_moveIn_0 : decode cX8_moveIn 0 = .ok (.iload_n 1, 1) := by decide +kernel
theorem dX8_moveIn_1 : decode cX8_moveIn 1 = .ok (.invokestatic 240, 3) := by decide +kernel
theorem dX8_moveIn_4 : decode cX8_moveIn 4 = .ok (.ifCond .eq 25, 3) := by decide +kernel
theorem dX8_moveIn_7 : decode cX8_moveIn 7 = .ok (.iload_n 2, 1) := by decide +kernel
theorem dX8_moveIn_8 : decode cX8_moveIn 8 = .ok (.iconst 0, 1) := by decide +kernel
theorem dX8_moveIn_9 : decode cX8_moveIn 9 = .ok (.sipush 999, 3) := by decide +kernel
theorem dX8_moveIn_12 : decode cX8_moveIn 12 = .ok (.invokestatic 66, 3) := by decide +kernel
theorem dX8_moveIn_15 : decode cX8_moveIn 15 = .ok (.ifCond .eq 14, 3) := by decide +kernel
theorem dX8_moveIn_18 : decode cX8_moveIn 18 = .ok (.iload_n 3, 1) := by decide +kernel
theorem dX8_moveIn_19 : decode cX8_moveIn 19 = .ok (.iconst 0, 1) := by decide +kernel
theorem dX8_moveIn_20 : decode cX8_moveIn 20 = .ok (.ldc_w 282, 3) := by decide +kernel
theorem dX8_moveIn_23 : decode cX8_moveIn 23 = .ok (.invokestatic 66, 3) := by decide +kernel
theorem dX8_moveIn_26 : decode cX8_moveIn 26 = .ok (.ifCond .ne 9, 3) := by decide +kernel
theorem dX8_moveIn_29 : decode cX8_moveIn 29 = .ok (.aload_n 0, 1) := by decide +kernel
theorem dX8_moveIn_30 : decode cX8_moveIn 30 = .ok (.iconst 1, 1) := by decide +kernel
theorem dX8_moveIn_31 : decode cX8_moveIn 31 = .ok (.invokevirtual 216, 3) := by decide +kernel
theorem dX8_moveIn_34 : decode cX8_moveIn 34 = .ok (.ireturn, 1) := by decide +kernel
theorem dX8_moveIn_35 : decode cX8_moveIn 35 = .ok (.aload_n 0, 1) := by decide +kernel
theorem dX8_moveIn_36 : decode cX8_moveIn 36 = .ok (.getfield 19, 3) := by decide +kernel
theorem dX8_moveIn_39 : decode cX8_moveIn 39 = .ok (.bipush 7, 2) := by decide +kernel
theorem dX8_moveIn_41 : decode cX8_moveIn 41 = .ok (.iaload, 1) := by decide +kernel
theorem dX8_moveIn_42 : decode cX8_moveIn 42 = .ok (.bipush 12, 2) := by decide +kernel
theorem dX8_moveIn_44 : decode cX8_moveIn 44 = .ok (.if_icmp .eq 13, 3) := by decide +kernel
theorem dX8_moveIn_47 : decode cX8_moveIn 47 = .ok (.aload_n 0, 1) := by decide +kernel
theorem dX8_moveIn_48 : decode cX8_moveIn 48 = .ok (.iload_n 1, 1) := by decide +kernel
theorem dX8_moveIn_49 : decode cX8_moveIn 49 = .ok (.iconst (-1), 1) := by decide +kernel
theorem dX8_moveIn_50 : decode cX8_moveIn 50 = .ok (.invokevirtual 80, 3) := by decide +kernel
theorem dX8_moveIn_53 : decode cX8_moveIn 53 = .ok (.iconst 4, 1) := by decide +kernel
theorem dX8_moveIn_54 : decode cX8_moveIn 54 = .ok (.if_icmp .ne 9, 3) := by decide +kernel
theorem dX8_moveIn_57 : decode cX8_moveIn 57 = .ok (.aload_n 0, 1) := by decide +kernel
theorem dX8_moveIn_58 : decode cX8_moveIn 58 = .ok (.iconst 2, 1) := by decide +kernel
theorem dX8_moveIn_59 : decode cX8_moveIn 59 = .ok (.invokevirtual 216, 3) := by decide +kernel
theorem dX8_moveIn_62 : decode cX8_moveIn 62 = .ok (.ireturn, 1) := by decide +kernel
theorem dX8_moveIn_63 : decode cX8_moveIn 63 = .ok (.aload_n 0, 1) := by decide +kernel
theorem dX8_moveIn_64 : decode cX8_moveIn 64 = .ok (.invokevirtual 279, 3) := by decide +kernel
theorem dX8_moveIn_67 : decode cX8_moveIn 67 = .ok (.bipush 97, 2) := by decide +kernel
theorem dX8_moveIn_69 : decode cX8_moveIn 69 = .ok (.istore 4, 2) := by decide +kernel
theorem dX8_moveIn_71 : decode cX8_moveIn 71 = .ok (.aload_n 0, 1) := by decide +kernel
theorem dX8_moveIn_72 : decode cX8_moveIn 72 = .ok (.iload 4, 2) := by decide +kernel
theorem dX8_moveIn_74 : decode cX8_moveIn 74 = .ok (.invokevirtual 283, 3) := by decide +kernel
theorem dX8_moveIn_77 : decode cX8_moveIn 77 = .ok (.ifCond .eq 9, 3) := by decide +kernel
theorem dX8_moveIn_80 : decode cX8_moveIn 80 = .ok (.iinc 4 1, 3) := by decide +kernel
theorem dX8_moveIn_83 : decode cX8_moveIn 83 = .ok (.goto (-12), 3) := by decide +kernel
theorem dX8_moveIn_86 : decode cX8_moveIn 86 = .ok (.aload_n 0, 1) := by decide +kernel
theorem dX8_moveIn_87 : decode cX8_moveIn 87 = .ok (.iload_n 1, 1) := by decide +kernel
theorem dX8_moveIn_88 : decode cX8_moveIn 88 = .ok (.iload_n 2, 1) := by decide +kernel
theorem dX8_moveIn_89 : decode cX8_moveIn 89 = .ok (.iload_n 3, 1) := by decide +kernel
theorem dX8_moveIn_90 : decode cX8_moveIn 90 = .ok (.invokevirtual 52, 3) := by decide +kernel
theorem dX8_moveIn_93 : decode cX8_moveIn 93 = .ok (.aload_n 0, 1) := by decide +kernel
theorem dX8_moveIn_94 : decode cX8_moveIn 94 = .ok (.getfield 19, 3) := by decide +kernel
theorem dX8_moveIn_97 : decode cX8_moveIn 97 = .ok (.aload_n 0, 1) := by decide +kernel
theorem dX8_moveIn_98 : decode cX8_moveIn 98 = .ok (.getfield 19, 3) := by decide +kernel
theorem dX8_moveIn_101 : decode cX8_moveIn 101 = .ok (.bipush 7, 2) := by decide +kernel
theorem dX8_moveIn_103 : decode cX8_moveIn 103 = .ok (.iaload, 1) := by decide +kernel
theorem dX8_moveIn_104 : decode cX8_moveIn 104 = .ok (.iconst 1, 1) := by decide +kernel
theorem dX8_moveIn_105 : decode cX8_moveIn 105 = .ok (.isub, 1) := by decide +kernel
theorem dX8_moveIn_106 : decode cX8_moveIn 106 = .ok (.invokestatic 56, 3) := by decide +kernel
theorem dX8_moveIn_109 : decode cX8_moveIn 109 = .ok (.bipush 10, 2) := by decide +kernel
theorem dX8_moveIn_111 : decode cX8_moveIn 111 = .ok (.iadd, 1) := by decide +kernel
theorem dX8_moveIn_112 : decode cX8_moveIn 112 = .ok (.iload 4, 2) := by decide +kernel
theorem dX8_moveIn_114 : decode cX8_moveIn 114 = .ok (.iastore, 1) := by decide +kernel
theorem dX8_moveIn_115 : decode cX8_moveIn 115 = .ok (.aload_n 0, 1) := by decide +kernel
theorem dX8_moveIn_116 : decode cX8_moveIn 116 = .ok (.aload_n 0, 1) := by decide +kernel
theorem dX8_moveIn_117 : decode cX8_moveIn 117 = .ok (.getfield 19, 3) := by decide +kernel
theorem dX8_moveIn_120 : decode cX8_moveIn 120 = .ok (.bipush 7, 2) := by decide +kernel
theorem dX8_moveIn_122 : decode cX8_moveIn 122 = .ok (.iaload, 1) := by decide +kernel
theorem dX8_moveIn_123 : decode cX8_moveIn 123 = .ok (.iconst 1, 1) := by decide +kernel
theorem dX8_moveIn_124 : decode cX8_moveIn 124 = .ok (.isub, 1) := by decide +kernel
theorem dX8_moveIn_125 : decode cX8_moveIn 125 = .ok (.invokevirtual 222, 3) := by decide +kernel
theorem dX8_moveIn_128 : decode cX8_moveIn 128 = .ok (.ireturn, 1) := by decide +kernel
theorem dX8_moveOut_0 : decode cX8_moveOut 0 = .ok (.aload_n 0, 1) := by decide +kernel
theorem dX8_moveOut_1 : decode cX8_moveOut 1 = .ok (.iload_n 1, 1) := by decide +kernel
theorem dX8_moveOut_2 : decode cX8_moveOut 2 = .ok (.invokevirtual 249, 3) := by decide +kernel
theorem dX8_moveOut_5 : decode cX8_moveOut 5 = .ok (.ifCond .ne 9, 3) := by decide +kernel
theorem dX8_moveOut_8 : decode cX8_moveOut 8 = .ok (.aload_n 0, 1) := by decide +kernel
theorem dX8_moveOut_9 : decode cX8_moveOut 9 = .ok (.iconst 1, 1) := by decide +kernel
theorem dX8_moveOut_10 : decode cX8_moveOut 10 = .ok (.invokevirtual 216, 3) := by decide +kernel
theorem dX8_moveOut_13 : decode cX8_moveOut 13 = .ok (.ireturn, 1) := by decide +kernel
theorem dX8_moveOut_14 : decode cX8_moveOut 14 = .ok (.aload_n 0, 1) := by decide +kernel
theorem dX8_moveOut_15 : decode cX8_moveOut 15 = .ok (.invokevirtual 279, 3) := by decide +kernel
theorem dX8_moveOut_18 : decode cX8_moveOut 18 = .ok (.aload_n 0, 1) := by decide +kernel
theorem dX8_moveOut_19 : decode cX8_moveOut 19 = .ok (.getfield 19, 3) := by decide +kernel
theorem dX8_moveOut_22 : decode cX8_moveOut 22 = .ok (.iload_n 1, 1) := by decide +kernel
theorem dX8_moveOut_23 : decode cX8_moveOut 23 = .ok (.invokestatic 56, 3) := by decide +kernel
theorem dX8_moveOut_26 : decode cX8_moveOut 26 = .ok (.iconst 1, 1) := by decide +kernel
theorem dX8_moveOut_27 : decode cX8_moveOut 27 = .ok (.iadd, 1) := by decide +kernel
theorem dX8_moveOut_28 : decode cX8_moveOut 28 = .ok (.iaload, 1) := by decide +kernel
theorem dX8_moveOut_29 : decode cX8_moveOut 29 = .ok (.istore_n 2, 1) := by decide +kernel
theorem dX8_moveOut_30 : decode cX8_moveOut 30 = .ok (.aload_n 0, 1) := by decide +kernel
theorem dX8_moveOut_31 : decode cX8_moveOut 31 = .ok (.iload_n 1, 1) := by decide +kernel
theorem dX8_moveOut_32 : decode cX8_moveOut 32 = .ok (.invokevirtual 108, 3) := by decide +kernel
theorem dX8_moveOut_35 : decode cX8_moveOut 35 = .ok (.aload_n 0, 1) := by decide +kernel
theorem dX8_moveOut_36 : decode cX8_moveOut 36 = .ok (.iload_n 2, 1) := by decide +kernel
theorem dX8_moveOut_37 : decode cX8_moveOut 37 = .ok (.invokevirtual 222, 3) := by decide +kernel
theorem dX8_moveOut_40 : decode cX8_moveOut 40 = .ok (.ireturn, 1) := by decide +kernel
theorem dX8_sets_0 : decode cX8_sets 0 = .ok (.aload_n 0, 1) := by decide +kernel
theorem dX8_sets_1 : decode cX8_sets 1 = .ok (.invokevirtual 279, 3) := by decide +kernel
theorem dX8_sets_4 : decode cX8_sets 4 = .ok (.aload_n 0, 1) := by decide +kernel
theorem dX8_sets_5 : decode cX8_sets 5 = .ok (.getfield 19, 3) := by decide +kernel
theorem dX8_sets_8 : decode cX8_sets 8 = .ok (.iload_n 1, 1) := by decide +kernel
theorem dX8_sets_9 : decode cX8_sets 9 = .ok (.iaload, 1) := by decide +kernel
theorem dX8_sets_10 : decode cX8_sets 10 = .ok (.istore_n 3, 1) := by decide +kernel
theorem dX8_sets_11 : decode cX8_sets 11 = .ok (.aload_n 0, 1) := by decide +kernel
theorem dX8_sets_12 : decode cX8_sets 12 = .ok (.getfield 19, 3) := by decide +kernel
theorem dX8_sets_15 : decode cX8_sets 15 = .ok (.iload_n 1, 1) := by decide +kernel
theorem dX8_sets_16 : decode cX8_sets 16 = .ok (.iload_n 2, 1) := by decide +kernel
theorem dX8_sets_17 : decode cX8_sets 17 = .ok (.iastore, 1) := by decide +kernel
theorem dX8_sets_18 : decode cX8_sets 18 = .ok (.iload_n 3, 1) := by decide +kernel
theorem dX8_sets_19 : decode cX8_sets 19 = .ok (.ireturn, 1) := by decide +kernel
theorem dX8_moveTo_0 : decode cX8_moveTo 0 = .ok (.aload_n 0, 1) := by decide +kernel
theorem dX8_moveTo_1 : decode cX8_moveTo 1 = .ok (.iload_n 1, 1) := by decide +kernel
theorem dX8_moveTo_2 : decode cX8_moveTo 2 = .ok (.invokevirtual 249, 3) := by decide +kernel
theorem dX8_moveTo_5 : decode cX8_moveTo 5 = .ok (.ifCond .ne 9, 3) := by decide +kernel
theorem dX8_moveTo_8 : decode cX8_moveTo 8 = .ok (.aload_n 0, 1) := by decide +kernel
theorem dX8_moveTo_9 : decode cX8_moveTo 9 = .ok (.iconst 1, 1) := by decide +kernel
theorem dX8_moveTo_10 : decode cX8_moveTo 10 = .ok (.invokevirtual 216, 3) := by decide +kernel
theorem dX8_moveTo_13 : decode cX8_moveTo 13 = .ok (.ireturn, 1) := by decide +kernel
theorem dX8_moveTo_14 : decode cX8_moveTo 14 = .ok (.iload_n 2, 1) := by decide +kernel
theorem dX8_moveTo_15 : decode cX8_moveTo 15 = .ok (.invokestatic 240, 3) := by decide +kernel
theorem dX8_moveTo_18 : decode cX8_moveTo 18 = .ok (.ifCond .ne 9, 3) := by decide +kernel
theorem dX8_moveTo_21 : decode cX8_moveTo 21 = .ok (.aload_n 0, 1) := by decide +kernel
theorem dX8_moveTo_22 : decode cX8_moveTo 22 = .ok (.iconst 2, 1) := by decide +kernel
theorem dX8_moveTo_23 : decode cX8_moveTo 23 = .ok (.invokevirtual 216, 3) := by decide +kernel
theorem dX8_moveTo_26 : decode cX8_moveTo 26 = .ok (.ireturn, 1) := by decide +kernel
theorem dX8_moveTo_27 : decode cX8_moveTo 27 = .ok (.aload_n 0, 1) := by decide +kernel
theorem dX8_moveTo_28 : decode cX8_moveTo 28 = .ok (.iload_n 2, 1) := by decide +kernel
theorem dX8_moveTo_29 : decode cX8_moveTo 29 = .ok (.iload_n 1, 1) := by decide +kernel
theorem dX8_moveTo_30 : decode cX8_moveTo 30 = .ok (.invokevirtual 80, 3) := by decide +kernel
theorem dX8_moveTo_33 : decode cX8_moveTo 33 = .ok (.iconst 4, 1) := by decide +kernel
theorem dX8_moveTo_34 : decode cX8_moveTo 34 = .ok (.if_icmp .ne 9, 3) := by decide +kernel
theorem dX8_moveTo_37 : decode cX8_moveTo 37 = .ok (.aload_n 0, 1) := by decide +kernel
theorem dX8_moveTo_38 : decode cX8_moveTo 38 = .ok (.iconst 3, 1) := by decide +kernel
theorem dX8_moveTo_39 : decode cX8_moveTo 39 = .ok (.invokevirtual 216, 3) := by decide +kernel
theorem dX8_moveTo_42 : decode cX8_moveTo 42 = .ok (.ireturn, 1) := by decide +kernel
theorem dX8_moveTo_43 : decode cX8_moveTo 43 = .ok (.aload_n 0, 1) := by decide +kernel
theorem dX8_moveTo_44 : decode cX8_moveTo 44 = .ok (.aload_n 0, 1) := by decide +kernel
theorem dX8_moveTo_45 : decode cX8_moveTo 45 = .ok (.iload_n 1, 1) := by decide +kernel
theorem dX8_moveTo_46 : decode cX8_moveTo 46 = .ok (.invokestatic 56, 3) := by decide +kernel
theorem dX8_moveTo_49 : decode cX8_moveTo 49 = .ok (.iconst 0, 1) := by decide +kernel
theorem dX8_moveTo_50 : decode cX8_moveTo 50 = .ok (.iadd, 1) := by decide +kernel
theorem dX8_moveTo_51 : decode cX8_moveTo 51 = .ok (.iload_n 2, 1) := by decide +kernel
theorem dX8_moveTo_52 : decode cX8_moveTo 52 = .ok (.invokevirtual 286, 3) := by decide +kernel
theorem dX8_moveTo_55 : decode cX8_moveTo 55 = .ok (.invokevirtual 222, 3) := by decide +kernel
theorem dX8_moveTo_58 : decode cX8_moveTo 58 = .ok (.ireturn, 1) := by decide +kernel
theorem dX8_pay_0 : decode cX8_pay 0 = .ok (.aload_n 0, 1) := by decide +kernel
theorem dX8_pay_1 : decode cX8_pay 1 = .ok (.iload_n 1, 1) := by decide +kernel
theorem dX8_pay_2 : decode cX8_pay 2 = .ok (.invokevirtual 249, 3) := by decide +kernel
theorem dX8_pay_5 : decode cX8_pay 5 = .ok (.ifCond .ne 9, 3) := by decide +kernel
theorem dX8_pay_8 : decode cX8_pay 8 = .ok (.aload_n 0, 1) := by decide +kernel
theorem dX8_pay_9 : decode cX8_pay 9 = .ok (.iconst 1, 1) := by decide +kernel
theorem dX8_pay_10 : decode cX8_pay 10 = .ok (.invokevirtual 216, 3) := by decide +kernel
theorem dX8_pay_13 : decode cX8_pay 13 = .ok (.ireturn, 1) := by decide +kernel
theorem dX8_pay_14 : decode cX8_pay 14 = .ok (.iload_n 2, 1) := by decide +kernel
theorem dX8_pay_15 : decode cX8_pay 15 = .ok (.iconst 1, 1) := by decide +kernel
theorem dX8_pay_16 : decode cX8_pay 16 = .ok (.sipush 999, 3) := by decide +kernel
theorem dX8_pay_19 : decode cX8_pay 19 = .ok (.invokestatic 66, 3) := by decide +kernel
theorem dX8_pay_22 : decode cX8_pay 22 = .ok (.ifCond .ne 9, 3) := by decide +kernel
theorem dX8_pay_25 : decode cX8_pay 25 = .ok (.aload_n 0, 1) := by decide +kernel
theorem dX8_pay_26 : decode cX8_pay 26 = .ok (.iconst 2, 1) := by decide +kernel
theorem dX8_pay_27 : decode cX8_pay 27 = .ok (.invokevirtual 216, 3) := by decide +kernel
theorem dX8_pay_30 : decode cX8_pay 30 = .ok (.ireturn, 1) := by decide +kernel
theorem dX8_pay_31 : decode cX8_pay 31 = .ok (.aload_n 0, 1) := by decide +kernel
theorem dX8_pay_32 : decode cX8_pay 32 = .ok (.invokevirtual 279, 3) := by decide +kernel
theorem dX8_pay_35 : decode cX8_pay 35 = .ok (.aload_n 0, 1) := by decide +kernel
theorem dX8_pay_36 : decode cX8_pay 36 = .ok (.iload_n 1, 1) := by decide +kernel
theorem dX8_pay_37 : decode cX8_pay 37 = .ok (.iload_n 2, 1) := by decide +kernel
theorem dX8_pay_38 : decode cX8_pay 38 = .ok (.invokevirtual 188, 3) := by decide +kernel
theorem dX8_pay_41 : decode cX8_pay 41 = .ok (.aload_n 0, 1) := by decide +kernel
theorem dX8_pay_42 : decode cX8_pay 42 = .ok (.aload_n 0, 1) := by decide +kernel
theorem dX8_pay_43 : decode cX8_pay 43 = .ok (.getfield 19, 3) := by decide +kernel
theorem dX8_pay_46 : decode cX8_pay 46 = .ok (.iload_n 1, 1) := by decide +kernel
theorem dX8_pay_47 : decode cX8_pay 47 = .ok (.invokestatic 56, 3) := by decide +kernel
theorem dX8_pay_50 : decode cX8_pay 50 = .ok (.iconst 1, 1) := by decide +kernel
theorem dX8_pay_51 : decode cX8_pay 51 = .ok (.iadd, 1) := by decide +kernel
theorem dX8_pay_52 : decode cX8_pay 52 = .ok (.iaload, 1) := by decide +kernel
theorem dX8_pay_53 : decode cX8_pay 53 = .ok (.invokevirtual 222, 3) := by decide +kernel
theorem dX8_pay_56 : decode cX8_pay 56 = .ok (.ireturn, 1) := by decide +kernel
theorem dX8_setLandladyVowel_0 : decode cX8_setLandladyVowel 0 = .ok (.iload_n 1, 1) := by decide +kernel
theorem dX8_setLandladyVowel_1 : decode cX8_setLandladyVowel 1 = .ok (.invokestatic 243, 3) := by decide +kernel
theorem dX8_setLandladyVowel_4 : decode cX8_setLandladyVowel 4 = .ok (.ifCond .ne 9, 3) := by decide +kernel
theorem dX8_setLandladyVowel_7 : decode cX8_setLandladyVowel 7 = .ok (.aload_n 0, 1) := by decide +kernel
theorem dX8_setLandladyVowel_8 : decode cX8_setLandladyVowel 8 = .ok (.iconst 1, 1) := by decide +kernel
theorem dX8_setLandladyVowel_9 : decode cX8_setLandladyVowel 9 = .ok (.invokevirtual 216, 3) := by decide +kernel
theorem dX8_setLandladyVowel_12 : decode cX8_setLandladyVowel 12 = .ok (.ireturn, 1) := by decide +kernel
theorem dX8_setLandladyVowel_13 : decode cX8_setLandladyVowel 13 = .ok (.iload_n 2, 1) := by decide +kernel
theorem dX8_setLandladyVowel_14 : decode cX8_setLandladyVowel 14 = .ok (.iconst 0, 1) := by decide +kernel
theorem dX8_setLandladyVowel_15 : decode cX8_setLandladyVowel 15 = .ok (.bipush 9, 2) := by decide +kernel
theorem dX8_setLandladyVowel_17 : decode cX8_setLandladyVowel 17 = .ok (.invokestatic 66, 3) := by decide +kernel
theorem dX8_setLandladyVowel_20 : decode cX8_setLandladyVowel 20 = .ok (.ifCond .ne 9, 3) := by decide +kernel
theorem dX8_setLandladyVowel_23 : decode cX8_setLandladyVowel 23 = .ok (.aload_n 0, 1) := by decide +kernel
theorem dX8_setLandladyVowel_24 : decode cX8_setLandladyVowel 24 = .ok (.iconst 2, 1) := by decide +kernel
theorem dX8_setLandladyVowel_25 : decode cX8_setLandladyVowel 25 = .ok (.invokevirtual 216, 3) := by decide +kernel
theorem dX8_setLandladyVowel_28 : decode cX8_setLandladyVowel 28 = .ok (.ireturn, 1) := by decide +kernel
theorem dX8_setLandladyVowel_29 : decode cX8_setLandladyVowel 29 = .ok (.aload_n 0, 1) := by decide +kernel
theorem dX8_setLandladyVowel_30 : decode cX8_setLandladyVowel 30 = .ok (.aload_n 0, 1) := by decide +kernel
theorem dX8_setLandladyVowel_31 : decode cX8_setLandladyVowel 31 = .ok (.iconst 2, 1) := by decide +kernel
theorem dX8_setLandladyVowel_32 : decode cX8_setLandladyVowel 32 = .ok (.iload_n 1, 1) := by decide +kernel
theorem dX8_setLandladyVowel_33 : decode cX8_setLandladyVowel 33 = .ok (.iadd, 1) := by decide +kernel
theorem dX8_setLandladyVowel_34 : decode cX8_setLandladyVowel 34 = .ok (.iload_n 2, 1) := by decide +kernel
theorem dX8_setLandladyVowel_35 : decode cX8_setLandladyVowel 35 = .ok (.invokevirtual 286, 3) := by decide +kernel
theorem dX8_setLandladyVowel_38 : decode cX8_setLandladyVowel 38 = .ok (.invokevirtual 222, 3) := by decide +kernel
theorem dX8_setLandladyVowel_41 : decode cX8_setLandladyVowel 41 = .ok (.ireturn, 1) := by decide +kernel
theorem dX8_setTolerance_0 : decode cX8_setTolerance 0 = .ok (.iload_n 1, 1) := by decide +kernel
theorem dX8_setTolerance_1 : decode cX8_setTolerance 1 = .ok (.iconst 0, 1) := by decide +kernel
theorem dX8_setTolerance_2 : decode cX8_setTolerance 2 = .ok (.bipush 45, 2) := by decide +kernel
theorem dX8_setTolerance_4 : decode cX8_setTolerance 4 = .ok (.invokestatic 66, 3) := by decide +kernel
theorem dX8_setTolerance_7 : decode cX8_setTolerance 7 = .ok (.ifCond .eq 16, 3) := by decide +kernel
theorem dX8_setTolerance_10 : decode cX8_setTolerance 10 = .ok (.aload_n 0, 1) := by decide +kernel
theorem dX8_setTolerance_11 : decode cX8_setTolerance 11 = .ok (.aload_n 0, 1) := by decide +kernel
theorem dX8_setTolerance_12 : decode cX8_setTolerance 12 = .ok (.iconst 1, 1) := by decide +kernel
theorem dX8_setTolerance_13 : decode cX8_setTolerance 13 = .ok (.iload_n 1, 1) := by decide +kernel
theorem dX8_setTolerance_14 : decode cX8_setTolerance 14 = .ok (.invokevirtual 286, 3) := by decide +kernel
theorem dX8_setTolerance_17 : decode cX8_setTolerance 17 = .ok (.invokevirtual 222, 3) := by decide +kernel
theorem dX8_setTolerance_20 : decode cX8_setTolerance 20 = .ok (.goto 8, 3) := by decide +kernel
theorem dX8_setTolerance_23 : decode cX8_setTolerance 23 = .ok (.aload_n 0, 1) := by decide +kernel
theorem dX8_setTolerance_24 : decode cX8_setTolerance 24 = .ok (.iconst 1, 1) := by decide +kernel
theorem dX8_setTolerance_25 : decode cX8_setTolerance 25 = .ok (.invokevirtual 216, 3) := by decide +kernel
theorem dX8_setTolerance_28 : decode cX8_setTolerance 28 = .ok (.ireturn, 1) := by decide +kernel
theorem dX8_setBaseRent_0 : decode cX8_setBaseRent 0 = .ok (.iload_n 1, 1) := by decide +kernel
theorem dX8_setBaseRent_1 : decode cX8_setBaseRent 1 = .ok (.iconst 0, 1) := by decide +kernel
theorem dX8_setBaseRent_2 : decode cX8_setBaseRent 2 = .ok (.bipush 50, 2) := by decide +kernel
theorem dX8_setBaseRent_4 : decode cX8_setBaseRent 4 = .ok (.invokestatic 66, 3) := by decide +kernel
theorem dX8_setBaseRent_7 : decode cX8_setBaseRent 7 = .ok (.ifCond .eq 16, 3) := by decide +kernel
theorem dX8_setBaseRent_10 : decode cX8_setBaseRent 10 = .ok (.aload_n 0, 1) := by decide +kernel
theorem dX8_setBaseRent_11 : decode cX8_setBaseRent 11 = .ok (.aload_n 0, 1) := by decide +kernel
theorem dX8_setBaseRent_12 : decode cX8_setBaseRent 12 = .ok (.iconst 0, 1) := by decide +kernel
theorem dX8_setBaseRent_13 : decode cX8_setBaseRent 13 = .ok (.iload_n 1, 1) := by decide +kernel
theorem dX8_setBaseRent_14 : decode cX8_setBaseRent 14 = .ok (.invokevirtual 286, 3) := by decide +kernel
theorem dX8_setBaseRent_17 : decode cX8_setBaseRent 17 = .ok (.invokevirtual 222, 3) := by decide +kernel
theorem dX8_setBaseRent_20 : decode cX8_setBaseRent 20 = .ok (.goto 8, 3) := by decide +kernel
theorem dX8_setBaseRent_23 : decode cX8_setBaseRent 23 = .ok (.aload_n 0, 1) := by decide +kernel
theorem dX8_setBaseRent_24 : decode cX8_setBaseRent 24 = .ok (.iconst 1, 1) := by decide +kernel
theorem dX8_setBaseRent_25 : decode cX8_setBaseRent 25 = .ok (.invokevirtual 216, 3) := by decide +kernel
theorem dX8_setBaseRent_28 : decode cX8_setBaseRent 28 = .ok (.ireturn, 1) := by decide +kernel
theorem dX8_restore_0 : decode cX8_restore 0 = .ok (.iload_n 1, 1) := by decide +kernel
theorem dX8_restore_1 : decode cX8_restore 1 = .ok (.iconst 0, 1) := by decide +kernel
theorem dX8_restore_2 : decode cX8_restore 2 = .ok (.iconst 1, 1) := by decide +kernel
theorem dX8_restore_3 : decode cX8_restore 3 = .ok (.invokestatic 66, 3) := by decide +kernel
theorem dX8_restore_6 : decode cX8_restore 6 = .ok (.ifCond .ne 9, 3) := by decide +kernel
theorem dX8_restore_9 : decode cX8_restore 9 = .ok (.aload_n 0, 1) := by decide +kernel
theorem dX8_restore_10 : decode cX8_restore 10 = .ok (.iconst 1, 1) := by decide +kernel
theorem dX8_restore_11 : decode cX8_restore 11 = .ok (.invokevirtual 216, 3) := by decide +kernel
theorem dX8_restore_14 : decode cX8_restore 14 = .ok (.ireturn, 1) := by decide +kernel
theorem dX8_restore_15 : decode cX8_restore 15 = .ok (.aload_n 0, 1) := by decide +kernel
theorem dX8_restore_16 : decode cX8_restore 16 = .ok (.getfield 237, 3) := by decide +kernel
theorem dX8_restore_19 : decode cX8_restore 19 = .ok (.iload_n 1, 1) := by decide +kernel
theorem dX8_restore_20 : decode cX8_restore 20 = .ok (.ishr, 1) := by decide +kernel
theorem dX8_restore_21 : decode cX8_restore 21 = .ok (.iconst 1, 1) := by decide +kernel
theorem dX8_restore_22 : decode cX8_restore 22 = .ok (.iand, 1) := by decide +kernel
theorem dX8_restore_23 : decode cX8_restore 23 = .ok (.ifCond .ne 9, 3) := by decide +kernel
theorem dX8_restore_26 : decode cX8_restore 26 = .ok (.aload_n 0, 1) := by decide +kernel
theorem dX8_restore_27 : decode cX8_restore 27 = .ok (.iconst 2, 1) := by decide +kernel
theorem dX8_restore_28 : decode cX8_restore 28 = .ok (.invokevirtual 216, 3) := by decide +kernel
theorem dX8_restore_31 : decode cX8_restore 31 = .ok (.ireturn, 1) := by decide +kernel
theorem dX8_restore_32 : decode cX8_restore 32 = .ok (.aload_n 0, 1) := by decide +kernel
theorem dX8_restore_33 : decode cX8_restore 33 = .ok (.invokevirtual 279, 3) := by decide +kernel
theorem dX8_restore_36 : decode cX8_restore 36 = .ok (.iconst 0, 1) := by decide +kernel
theorem dX8_restore_37 : decode cX8_restore 37 = .ok (.istore_n 2, 1) := by decide +kernel
theorem dX8_restore_38 : decode cX8_restore 38 = .ok (.iload_n 2, 1) := by decide +kernel
theorem dX8_restore_39 : decode cX8_restore 39 = .ok (.sipush 205, 3) := by decide +kernel
theorem dX8_restore_42 : decode cX8_restore 42 = .ok (.if_icmp .ge 27, 3) := by decide +kernel
theorem dX8_restore_45 : decode cX8_restore 45 = .ok (.aload_n 0, 1) := by decide +kernel
theorem dX8_restore_46 : decode cX8_restore 46 = .ok (.getfield 19, 3) := by decide +kernel
theorem dX8_restore_49 : decode cX8_restore 49 = .ok (.iload_n 2, 1) := by decide +kernel
theorem dX8_restore_50 : decode cX8_restore 50 = .ok (.aload_n 0, 1) := by decide +kernel
theorem dX8_restore_51 : decode cX8_restore 51 = .ok (.getfield 28, 3) := by decide +kernel
theorem dX8_restore_54 : decode cX8_restore 54 = .ok (.iload_n 1, 1) := by decide +kernel
theorem dX8_restore_55 : decode cX8_restore 55 = .ok (.sipush 205, 3) := by decide +kernel
theorem dX8_restore_58 : decode cX8_restore 58 = .ok (.imul, 1) := by decide +kernel
theorem dX8_restore_59 : decode cX8_restore 59 = .ok (.iload_n 2, 1) := by decide +kernel
theorem dX8_restore_60 : decode cX8_restore 60 = .ok (.iadd, 1) := by decide +kernel
theorem dX8_restore_61 : decode cX8_restore 61 = .ok (.iaload, 1) := by decide +kernel
theorem dX8_restore_62 : decode cX8_restore 62 = .ok (.iastore, 1) := by decide +kernel
theorem dX8_restore_63 : decode cX8_restore 63 = .ok (.iinc 2 1, 3) := by decide +kernel
theorem dX8_restore_66 : decode cX8_restore 66 = .ok (.goto (-28), 3) := by decide +kernel
theorem dX8_restore_69 : decode cX8_restore 69 = .ok (.aload_n 0, 1) := by decide +kernel
theorem dX8_restore_70 : decode cX8_restore 70 = .ok (.aload_n 0, 1) := by decide +kernel
theorem dX8_restore_71 : decode cX8_restore 71 = .ok (.getfield 19, 3) := by decide +kernel
theorem dX8_restore_74 : decode cX8_restore 74 = .ok (.bipush 8, 2) := by decide +kernel
theorem dX8_restore_76 : decode cX8_restore 76 = .ok (.iaload, 1) := by decide +kernel
theorem dX8_restore_77 : decode cX8_restore 77 = .ok (.invokevirtual 222, 3) := by decide +kernel
theorem dX8_restore_80 : decode cX8_restore 80 = .ok (.ireturn, 1) := by decide +kernel
theorem dX8_undo_0 : decode cX8_undo 0 = .ok (.aload_n 0, 1) := by decide +kernel
theorem dX8_undo_1 : decode cX8_undo 1 = .ok (.getfield 127, 3) := by decide +kernel
theorem dX8_undo_4 : decode cX8_undo 4 = .ok (.ifCond .ne 9, 3) := by decide +kernel
theorem dX8_undo_7 : decode cX8_undo 7 = .ok (.aload_n 0, 1) := by decide +kernel
theorem dX8_undo_8 : decode cX8_undo 8 = .ok (.iconst 1, 1) := by decide +kernel
theorem dX8_undo_9 : decode cX8_undo 9 = .ok (.invokevirtual 216, 3) := by decide +kernel
theorem dX8_undo_12 : decode cX8_undo 12 = .ok (.ireturn, 1) := by decide +kernel
theorem dX8_undo_13 : decode cX8_undo 13 = .ok (.aload_n 0, 1) := by decide +kernel
theorem dX8_undo_14 : decode cX8_undo 14 = .ok (.dup, 1) := by decide +kernel
theorem dX8_undo_15 : decode cX8_undo 15 = .ok (.getfield 127, 3) := by decide +kernel
theorem dX8_undo_18 : decode cX8_undo 18 = .ok (.iconst 1, 1) := by decide +kernel
theorem dX8_undo_19 : decode cX8_undo 19 = .ok (.isub, 1) := by decide +kernel
theorem dX8_undo_20 : decode cX8_undo 20 = .ok (.putfield 127, 3) := by decide +kernel
theorem dX8_undo_23 : decode cX8_undo 23 = .ok (.iconst 0, 1) := by decide +kernel
theorem dX8_undo_24 : decode cX8_undo 24 = .ok (.istore_n 1, 1) := by decide +kernel
theorem dX8_undo_25 : decode cX8_undo 25 = .ok (.iload_n 1, 1) := by decide +kernel
theorem dX8_undo_26 : decode cX8_undo 26 = .ok (.sipush 205, 3) := by decide +kernel
theorem dX8_undo_29 : decode cX8_undo 29 = .ok (.if_icmp .ge 30, 3) := by decide +kernel
theorem dX8_undo_32 : decode cX8_undo 32 = .ok (.aload_n 0, 1) := by decide +kernel
theorem dX8_undo_33 : decode cX8_undo 33 = .ok (.getfield 19, 3) := by decide +kernel
theorem dX8_undo_36 : decode cX8_undo 36 = .ok (.iload_n 1, 1) := by decide +kernel
theorem dX8_undo_37 : decode cX8_undo 37 = .ok (.aload_n 0, 1) := by decide +kernel
theorem dX8_undo_38 : decode cX8_undo 38 = .ok (.getfield 25, 3) := by decide +kernel
theorem dX8_undo_41 : decode cX8_undo 41 = .ok (.aload_n 0, 1) := by decide +kernel
theorem dX8_undo_42 : decode cX8_undo 42 = .ok (.getfield 127, 3) := by decide +kernel
theorem dX8_undo_45 : decode cX8_undo 45 = .ok (.sipush 205, 3) := by decide +kernel
theorem dX8_undo_48 : decode cX8_undo 48 = .ok (.imul, 1) := by decide +kernel
theorem dX8_undo_49 : decode cX8_undo 49 = .ok (.iload_n 1, 1) := by decide +kernel
theorem dX8_undo_50 : decode cX8_undo 50 = .ok (.iadd, 1) := by decide +kernel
theorem dX8_undo_51 : decode cX8_undo 51 = .ok (.iaload, 1) := by decide +kernel
theorem dX8_undo_52 : decode cX8_undo 52 = .ok (.iastore, 1) := by decide +kernel
theorem dX8_undo_53 : decode cX8_undo 53 = .ok (.iinc 1 1, 3) := by decide +kernel
theorem dX8_undo_56 : decode cX8_undo 56 = .ok (.goto (-31), 3) := by decide +kernel
theorem dX8_undo_59 : decode cX8_undo 59 = .ok (.aload_n 0, 1) := by decide +kernel
theorem dX8_undo_60 : decode cX8_undo 60 = .ok (.aload_n 0, 1) := by decide +kernel
theorem dX8_undo_61 : decode cX8_undo 61 = .ok (.getfield 127, 3) := by decide +kernel
theorem dX8_undo_64 : decode cX8_undo 64 = .ok (.invokevirtual 222, 3) := by decide +kernel
theorem dX8_undo_67 : decode cX8_undo 67 = .ok (.ireturn, 1) := by decide +kernel
theorem dX8_save_0 : decode cX8_save 0 = .ok (.iload_n 1, 1) := by decide +kernel
theorem dX8_save_1 : decode cX8_save 1 = .ok (.iconst 0, 1) := by decide +kernel
theorem dX8_save_2 : decode cX8_save 2 = .ok (.iconst 1, 1) := by decide +kernel
theorem dX8_save_3 : decode cX8_save 3 = .ok (.invokestatic 66, 3) := by decide +kernel
theorem dX8_save_6 : decode cX8_save 6 = .ok (.ifCond .ne 9, 3) := by decide +kernel
theorem dX8_save_9 : decode cX8_save 9 = .ok (.aload_n 0, 1) := by decide +kernel
theorem dX8_save_10 : decode cX8_save 10 = .ok (.iconst 1, 1) := by decide +kernel
theorem dX8_save_11 : decode cX8_save 11 = .ok (.invokevirtual 216, 3) := by decide +kernel
theorem dX8_save_14 : decode cX8_save 14 = .ok (.ireturn, 1) := by decide +kernel
theorem dX8_save_15 : decode cX8_save 15 = .ok (.iconst 0, 1) := by decide +kernel
theorem dX8_save_16 : decode cX8_save 16 = .ok (.istore_n 2, 1) := by decide +kernel
theorem dX8_save_17 : decode cX8_save 17 = .ok (.iload_n 2, 1) := by decide +kernel
theorem dX8_save_18 : decode cX8_save 18 = .ok (.sipush 205, 3) := by decide +kernel
theorem dX8_save_21 : decode cX8_save 21 = .ok (.if_icmp .ge 27, 3) := by decide +kernel
theorem dX8_save_24 : decode cX8_save 24 = .ok (.aload_n 0, 1) := by decide +kernel
theorem dX8_save_25 : decode cX8_save 25 = .ok (.getfield 28, 3) := by decide +kernel
theorem dX8_save_28 : decode cX8_save 28 = .ok (.iload_n 1, 1) := by decide +kernel
theorem dX8_save_29 : decode cX8_save 29 = .ok (.sipush 205, 3) := by decide +kernel
theorem dX8_save_32 : decode cX8_save 32 = .ok (.imul, 1) := by decide +kernel
theorem dX8_save_33 : decode cX8_save 33 = .ok (.iload_n 2, 1) := by decide +kernel
theorem dX8_save_34 : decode cX8_save 34 = .ok (.iadd, 1) := by decide +kernel
theorem dX8_save_35 : decode cX8_save 35 = .ok (.aload_n 0, 1) := by decide +kernel
theorem dX8_save_36 : decode cX8_save 36 = .ok (.getfield 19, 3) := by decide +kernel
theorem dX8_save_39 : decode cX8_save 39 = .ok (.iload_n 2, 1) := by decide +kernel
theorem dX8_save_40 : decode cX8_save 40 = .ok (.iaload, 1) := by decide +kernel
theorem dX8_save_41 : decode cX8_save 41 = .ok (.iastore, 1) := by decide +kernel
theorem dX8_save_42 : decode cX8_save 42 = .ok (.iinc 2 1, 3) := by decide +kernel
theorem dX8_save_45 : decode cX8_save 45 = .ok (.goto (-28), 3) := by decide +kernel
theorem dX8_save_48 : decode cX8_save 48 = .ok (.aload_n 0, 1) := by decide +kernel
theorem dX8_save_49 : decode cX8_save 49 = .ok (.dup, 1) := by decide +kernel
theorem dX8_save_50 : decode cX8_save 50 = .ok (.getfield 237, 3) := by decide +kernel
theorem dX8_save_53 : decode cX8_save 53 = .ok (.iconst 1, 1) := by decide +kernel
theorem dX8_save_54 : decode cX8_save 54 = .ok (.iload_n 1, 1) := by decide +kernel
theorem dX8_save_55 : decode cX8_save 55 = .ok (.ishl, 1) := by decide +kernel
theorem dX8_save_56 : decode cX8_save 56 = .ok (.ior, 1) := by decide +kernel
theorem dX8_save_57 : decode cX8_save 57 = .ok (.putfield 237, 3) := by decide +kernel
theorem dX8_save_60 : decode cX8_save 60 = .ok (.aload_n 0, 1) := by decide +kernel
theorem dX8_save_61 : decode cX8_save 61 = .ok (.aload_n 0, 1) := by decide +kernel
theorem dX8_save_62 : decode cX8_save 62 = .ok (.getfield 19, 3) := by decide +kernel
theorem dX8_save_65 : decode cX8_save 65 = .ok (.bipush 8, 2) := by decide +kernel
theorem dX8_save_67 : decode cX8_save 67 = .ok (.iaload, 1) := by decide +kernel
theorem dX8_save_68 : decode cX8_save 68 = .ok (.invokevirtual 222, 3) := by decide +kernel
theorem dX8_save_71 : decode cX8_save 71 = .ok (.ireturn, 1) := by decide +kernel
theorem dX8_writes_0 : decode cX8_writes 0 = .ok (.aload_n 0, 1) := by decide +kernel
theorem dX8_writes_1 : decode cX8_writes 1 = .ok (.getfield 45, 3) := by decide +kernel
theorem dX8_writes_4 : decode cX8_writes 4 = .ok (.aload_n 0, 1) := by decide +kernel
theorem dX8_writes_5 : decode cX8_writes 5 = .ok (.getfield 289, 3) := by decide +kernel
theorem dX8_writes_8 : decode cX8_writes 8 = .ok (.iload_n 1, 1) := by decide +kernel
theorem dX8_writes_9 : decode cX8_writes 9 = .ok (.i2c, 1) := by decide +kernel
theorem dX8_writes_10 : decode cX8_writes 10 = .ok (.castore, 1) := by decide +kernel
theorem dX8_writes_11 : decode cX8_writes 11 = .ok (.aload_n 0, 1) := by decide +kernel
theorem dX8_writes_12 : decode cX8_writes 12 = .ok (.dup, 1) := by decide +kernel
theorem dX8_writes_13 : decode cX8_writes 13 = .ok (.getfield 289, 3) := by decide +kernel
theorem dX8_writes_16 : decode cX8_writes 16 = .ok (.iconst 1, 1) := by decide +kernel
theorem dX8_writes_17 : decode cX8_writes 17 = .ok (.iadd, 1) := by decide +kernel
theorem dX8_writes_18 : decode cX8_writes 18 = .ok (.putfield 289, 3) := by decide +kernel
theorem dX8_writes_21 : decode cX8_writes 21 = .ok (.return_, 1) := by decide +kernel
theorem dX8_writesName_0 : decode cX8_writesName 0 = .ok (.iconst 0, 1) := by decide +kernel
theorem dX8_writesName_1 : decode cX8_writesName 1 = .ok (.istore_n 2, 1) := by decide +kernel
theorem dX8_writesName_2 : decode cX8_writesName 2 = .ok (.iload_n 2, 1) := by decide +kernel
theorem dX8_writesName_3 : decode cX8_writesName 3 = .ok (.aload_n 0, 1) := by decide +kernel
theorem dX8_writesName_4 : decode cX8_writesName 4 = .ok (.iload_n 1, 1) := by decide +kernel
theorem dX8_writesName_5 : decode cX8_writesName 5 = .ok (.invokevirtual 255, 3) := by decide +kernel
theorem dX8_writesName_8 : decode cX8_writesName 8 = .ok (.if_icmp .ge 27, 3) := by decide +kernel
theorem dX8_writesName_11 : decode cX8_writesName 11 = .ok (.aload_n 0, 1) := by decide +kernel
theorem dX8_writesName_12 : decode cX8_writesName 12 = .ok (.aload_n 0, 1) := by decide +kernel
theorem dX8_writesName_13 : decode cX8_writesName 13 = .ok (.getfield 19, 3) := by decide +kernel
theorem dX8_writesName_16 : decode cX8_writesName 16 = .ok (.iload_n 1, 1) := by decide +kernel
theorem dX8_writesName_17 : decode cX8_writesName 17 = .ok (.invokestatic 56, 3) := by decide +kernel
theorem dX8_writesName_20 : decode cX8_writesName 20 = .ok (.bipush 10, 2) := by decide +kernel
theorem dX8_writesName_22 : decode cX8_writesName 22 = .ok (.iadd, 1) := by decide +kernel
theorem dX8_writesName_23 : decode cX8_writesName 23 = .ok (.iload_n 2, 1) := by decide +kernel
theorem dX8_writesName_24 : decode cX8_writesName 24 = .ok (.iadd, 1) := by decide +kernel
theorem dX8_writesName_25 : decode cX8_writesName 25 = .ok (.iaload, 1) := by decide +kernel
theorem dX8_writesName_26 : decode cX8_writesName 26 = .ok (.invokevirtual 292, 3) := by decide +kernel
theorem dX8_writesName_29 : decode cX8_writesName 29 = .ok (.iinc 2 1, 3) := by decide +kernel
theorem dX8_writesName_32 : decode cX8_writesName 32 = .ok (.goto (-30), 3) := by decide +kernel
theorem dX8_writesName_35 : decode cX8_writesName 35 = .ok (.return_, 1) := by decide +kernel
theorem dX8_writesNumber_0 : decode cX8_writesNumber 0 = .ok (.iload_n 1, 1) := by decide +kernel
theorem dX8_writesNumber_1 : decode cX8_writesNumber 1 = .ok (.ifCond .ge 9, 3) := by decide +kernel
theorem dX8_writesNumber_4 : decode cX8_writesNumber 4 = .ok (.aload_n 0, 1) := by decide +kernel
theorem dX8_writesNumber_5 : decode cX8_writesNumber 5 = .ok (.bipush 45, 2) := by decide +kernel
theorem dX8_writesNumber_7 : decode cX8_writesNumber 7 = .ok (.invokevirtual 292, 3) := by decide +kernel
theorem dX8_writesNumber_10 : decode cX8_writesNumber 10 = .ok (.iload_n 1, 1) := by decide +kernel
theorem dX8_writesNumber_11 : decode cX8_writesNumber 11 = .ok (.invokestatic 77, 3) := by decide +kernel
theorem dX8_writesNumber_14 : decode cX8_writesNumber 14 = .ok (.istore_n 2, 1) := by decide +kernel
theorem dX8_writesNumber_15 : decode cX8_writesNumber 15 = .ok (.iconst 1, 1) := by decide +kernel
theorem dX8_writesNumber_16 : decode cX8_writesNumber 16 = .ok (.istore_n 3, 1) := by decide +kernel
theorem dX8_writesNumber_17 : decode cX8_writesNumber 17 = .ok (.iload_n 2, 1) := by decide +kernel
theorem dX8_writesNumber_18 : decode cX8_writesNumber 18 = .ok (.iload_n 3, 1) := by decide +kernel
theorem dX8_writesNumber_19 : decode cX8_writesNumber 19 = .ok (.idiv, 1) := by decide +kernel
theorem dX8_writesNumber_20 : decode cX8_writesNumber 20 = .ok (.bipush 9, 2) := by decide +kernel
theorem dX8_writesNumber_22 : decode cX8_writesNumber 22 = .ok (.if_icmp .le 11, 3) := by decide +kernel
theorem dX8_writesNumber_25 : decode cX8_writesNumber 25 = .ok (.iload_n 3, 1) := by decide +kernel
theorem dX8_writesNumber_26 : decode cX8_writesNumber 26 = .ok (.bipush 10, 2) := by decide +kernel
theorem dX8_writesNumber_28 : decode cX8_writesNumber 28 = .ok (.imul, 1) := by decide +kernel
theorem dX8_writesNumber_29 : decode cX8_writesNumber 29 = .ok (.istore_n 3, 1) := by decide +kernel
theorem dX8_writesNumber_30 : decode cX8_writesNumber 30 = .ok (.goto (-13), 3) := by decide +kernel
theorem dX8_writesNumber_33 : decode cX8_writesNumber 33 = .ok (.iload_n 3, 1) := by decide +kernel
theorem dX8_writesNumber_34 : decode cX8_writesNumber 34 = .ok (.ifCond .le 24, 3) := by decide +kernel
theorem dX8_writesNumber_37 : decode cX8_writesNumber 37 = .ok (.aload_n 0, 1) := by decide +kernel
theorem dX8_writesNumber_38 : decode cX8_writesNumber 38 = .ok (.bipush 48, 2) := by decide +kernel
theorem dX8_writesNumber_40 : decode cX8_writesNumber 40 = .ok (.iload_n 2, 1) := by decide +kernel
theorem dX8_writesNumber_41 : decode cX8_writesNumber 41 = .ok (.iload_n 3, 1) := by decide +kernel
theorem dX8_writesNumber_42 : decode cX8_writesNumber 42 = .ok (.idiv, 1) := by decide +kernel
theorem dX8_writesNumber_43 : decode cX8_writesNumber 43 = .ok (.bipush 10, 2) := by decide +kernel
theorem dX8_writesNumber_45 : decode cX8_writesNumber 45 = .ok (.irem, 1) := by decide +kernel
theorem dX8_writesNumber_46 : decode cX8_writesNumber 46 = .ok (.iadd, 1) := by decide +kernel
theorem dX8_writesNumber_47 : decode cX8_writesNumber 47 = .ok (.invokevirtual 292, 3) := by decide +kernel
theorem dX8_writesNumber_50 : decode cX8_writesNumber 50 = .ok (.iload_n 3, 1) := by decide +kernel
theorem dX8_writesNumber_51 : decode cX8_writesNumber 51 = .ok (.bipush 10, 2) := by decide +kernel
theorem dX8_writesNumber_53 : decode cX8_writesNumber 53 = .ok (.idiv, 1) := by decide +kernel
theorem dX8_writesNumber_54 : decode cX8_writesNumber 54 = .ok (.istore_n 3, 1) := by decide +kernel
theorem dX8_writesNumber_55 : decode cX8_writesNumber 55 = .ok (.goto (-22), 3) := by decide +kernel
theorem dX8_writesNumber_58 : decode cX8_writesNumber 58 = .ok (.return_, 1) := by decide +kernel
theorem dX8_writeLodger_0 : decode cX8_writeLodger 0 = .ok (.aload_n 0, 1) := by decide +kernel
theorem dX8_writeLodger_1 : decode cX8_writeLodger 1 = .ok (.iload_n 1, 1) := by decide +kernel
theorem dX8_writeLodger_2 : decode cX8_writeLodger 2 = .ok (.invokevirtual 249, 3) := by decide +kernel
theorem dX8_writeLodger_5 : decode cX8_writeLodger 5 = .ok (.ifCond .ne 9, 3) := by decide +kernel
theorem dX8_writeLodger_8 : decode cX8_writeLodger 8 = .ok (.aload_n 0, 1) := by decide +kernel
theorem dX8_writeLodger_9 : decode cX8_writeLodger 9 = .ok (.iconst 1, 1) := by decide +kernel
theorem dX8_writeLodger_10 : decode cX8_writeLodger 10 = .ok (.invokevirtual 216, 3) := by decide +kernel
theorem dX8_writeLodger_13 : decode cX8_writeLodger 13 = .ok (.ireturn, 1) := by decide +kernel
theorem dX8_writeLodger_14 : decode cX8_writeLodger 14 = .ok (.aload_n 0, 1) := by decide +kernel
theorem dX8_writeLodger_15 : decode cX8_writeLodger 15 = .ok (.iconst 0, 1) := by decide +kernel
theorem dX8_writeLodger_16 : decode cX8_writeLodger 16 = .ok (.putfield 289, 3) := by decide +kernel
theorem dX8_writeLodger_19 : decode cX8_writeLodger 19 = .ok (.aload_n 0, 1) := by decide +kernel
theorem dX8_writeLodger_20 : decode cX8_writeLodger 20 = .ok (.iload_n 1, 1) := by decide +kernel
theorem dX8_writeLodger_21 : decode cX8_writeLodger 21 = .ok (.invokevirtual 295, 3) := by decide +kernel
theorem dX8_writeLodger_24 : decode cX8_writeLodger 24 = .ok (.aload_n 0, 1) := by decide +kernel
theorem dX8_writeLodger_25 : decode cX8_writeLodger 25 = .ok (.bipush 32, 2) := by decide +kernel
theorem dX8_writeLodger_27 : decode cX8_writeLodger 27 = .ok (.invokevirtual 292, 3) := by decide +kernel
theorem dX8_writeLodger_30 : decode cX8_writeLodger 30 = .ok (.iconst 0, 1) := by decide +kernel
theorem dX8_writeLodger_31 : decode cX8_writeLodger 31 = .ok (.istore_n 2, 1) := by decide +kernel
theorem dX8_writeLodger_32 : decode cX8_writeLodger 32 = .ok (.iload_n 2, 1) := by decide +kernel
theorem dX8_writeLodger_33 : decode cX8_writeLodger 33 = .ok (.iconst 5, 1) := by decide +kernel
theorem dX8_writeLodger_34 : decode cX8_writeLodger 34 = .ok (.if_icmp .ge 22, 3) := by decide +kernel
theorem dX8_writeLodger_37 : decode cX8_writeLodger 37 = .ok (.aload_n 0, 1) := by decide +kernel
theorem dX8_writeLodger_38 : decode cX8_writeLodger 38 = .ok (.bipush 48, 2) := by decide +kernel
theorem dX8_writeLodger_40 : decode cX8_writeLodger 40 = .ok (.aload_n 0, 1) := by decide +kernel
theorem dX8_writeLodger_41 : decode cX8_writeLodger 41 = .ok (.iload_n 1, 1) := by decide +kernel
theorem dX8_writeLodger_42 : decode cX8_writeLodger 42 = .ok (.iload_n 2, 1) := by decide +kernel
theorem dX8_writeLodger_43 : decode cX8_writeLodger 43 = .ok (.invokevirtual 73, 3) := by decide +kernel
theorem dX8_writeLodger_46 : decode cX8_writeLodger 46 = .ok (.iadd, 1) := by decide +kernel
theorem dX8_writeLodger_47 : decode cX8_writeLodger 47 = .ok (.invokevirtual 292, 3) := by decide +kernel
theorem dX8_writeLodger_50 : decode cX8_writeLodger 50 = .ok (.iinc 2 1, 3) := by decide +kernel
theorem dX8_writeLodger_53 : decode cX8_writeLodger 53 = .ok (.goto (-21), 3) := by decide +kernel
theorem dX8_writeLodger_56 : decode cX8_writeLodger 56 = .ok (.aload_n 0, 1) := by decide +kernel
theorem dX8_writeLodger_57 : decode cX8_writeLodger 57 = .ok (.bipush 32, 2) := by decide +kernel
theorem dX8_writeLodger_59 : decode cX8_writeLodger 59 = .ok (.invokevirtual 292, 3) := by decide +kernel
theorem dX8_writeLodger_62 : decode cX8_writeLodger 62 = .ok (.aload_n 0, 1) := by decide +kernel
theorem dX8_writeLodger_63 : decode cX8_writeLodger 63 = .ok (.aload_n 0, 1) := by decide +kernel
theorem dX8_writeLodger_64 : decode cX8_writeLodger 64 = .ok (.getfield 19, 3) := by decide +kernel
theorem dX8_writeLodger_67 : decode cX8_writeLodger 67 = .ok (.iload_n 1, 1) := by decide +kernel
theorem dX8_writeLodger_68 : decode cX8_writeLodger 68 = .ok (.invokestatic 56, 3) := by decide +kernel
theorem dX8_writeLodger_71 : decode cX8_writeLodger 71 = .ok (.iconst 1, 1) := by decide +kernel
theorem dX8_writeLodger_72 : decode cX8_writeLodger 72 = .ok (.iadd, 1) := by decide +kernel
theorem dX8_writeLodger_73 : decode cX8_writeLodger 73 = .ok (.iaload, 1) := by decide +kernel
theorem dX8_writeLodger_74 : decode cX8_writeLodger 74 = .ok (.invokevirtual 298, 3) := by decide +kernel
theorem dX8_writeLodger_77 : decode cX8_writeLodger 77 = .ok (.aload_n 0, 1) := by decide +kernel
theorem dX8_writeLodger_78 : decode cX8_writeLodger 78 = .ok (.aload_n 0, 1) := by decide +kernel
theorem dX8_writeLodger_79 : decode cX8_writeLodger 79 = .ok (.getfield 289, 3) := by decide +kernel
theorem dX8_writeLodger_82 : decode cX8_writeLodger 82 = .ok (.invokevirtual 222, 3) := by decide +kernel
theorem dX8_writeLodger_85 : decode cX8_writeLodger 85 = .ok (.ireturn, 1) := by decide +kernel
theorem dX8_writeFloor_0 : decode cX8_writeFloor 0 = .ok (.iload_n 1, 1) := by decide +kernel
theorem dX8_writeFloor_1 : decode cX8_writeFloor 1 = .ok (.invokestatic 240, 3) := by decide +kernel
theorem dX8_writeFloor_4 : decode cX8_writeFloor 4 = .ok (.ifCond .ne 9, 3) := by decide +kernel
theorem dX8_writeFloor_7 : decode cX8_writeFloor 7 = .ok (.aload_n 0, 1) := by decide +kernel
theorem dX8_writeFloor_8 : decode cX8_writeFloor 8 = .ok (.iconst 1, 1) := by decide +kernel
theorem dX8_writeFloor_9 : decode cX8_writeFloor 9 = .ok (.invokevirtual 216, 3) := by decide +kernel
theorem dX8_writeFloor_12 : decode cX8_writeFloor 12 = .ok (.ireturn, 1) := by decide +kernel
theorem dX8_writeFloor_13 : decode cX8_writeFloor 13 = .ok (.aload_n 0, 1) := by decide +kernel
theorem dX8_writeFloor_14 : decode cX8_writeFloor 14 = .ok (.iconst 0, 1) := by decide +kernel
theorem dX8_writeFloor_15 : decode cX8_writeFloor 15 = .ok (.putfield 289, 3) := by decide +kernel
theorem dX8_writeFloor_18 : decode cX8_writeFloor 18 = .ok (.iconst 0, 1) := by decide +kernel
theorem dX8_writeFloor_19 : decode cX8_writeFloor 19 = .ok (.istore_n 2, 1) := by decide +kernel
theorem dX8_writeFloor_20 : decode cX8_writeFloor 20 = .ok (.iload_n 2, 1) := by decide +kernel
theorem dX8_writeFloor_21 : decode cX8_writeFloor 21 = .ok (.aload_n 0, 1) := by decide +kernel
theorem dX8_writeFloor_22 : decode cX8_writeFloor 22 = .ok (.getfield 19, 3) := by decide +kernel
theorem dX8_writeFloor_25 : decode cX8_writeFloor 25 = .ok (.bipush 7, 2) := by decide +kernel
theorem dX8_writeFloor_27 : decode cX8_writeFloor 27 = .ok (.iaload, 1) := by decide +kernel
theorem dX8_writeFloor_28 : decode cX8_writeFloor 28 = .ok (.if_icmp .ge 42, 3) := by decide +kernel
theorem dX8_writeFloor_31 : decode cX8_writeFloor 31 = .ok (.aload_n 0, 1) := by decide +kernel
theorem dX8_writeFloor_32 : decode cX8_writeFloor 32 = .ok (.getfield 19, 3) := by decide +kernel
theorem dX8_writeFloor_35 : decode cX8_writeFloor 35 = .ok (.iload_n 2, 1) := by decide +kernel
theorem dX8_writeFloor_36 : decode cX8_writeFloor 36 = .ok (.invokestatic 56, 3) := by decide +kernel
theorem dX8_writeFloor_39 : decode cX8_writeFloor 39 = .ok (.iconst 0, 1) := by decide +kernel
theorem dX8_writeFloor_40 : decode cX8_writeFloor 40 = .ok (.iadd, 1) := by decide +kernel
theorem dX8_writeFloor_41 : decode cX8_writeFloor 41 = .ok (.iaload, 1) := by decide +kernel
theorem dX8_writeFloor_42 : decode cX8_writeFloor 42 = .ok (.iload_n 1, 1) := by decide +kernel
theorem dX8_writeFloor_43 : decode cX8_writeFloor 43 = .ok (.if_icmp .ne 21, 3) := by decide +kernel
theorem dX8_writeFloor_46 : decode cX8_writeFloor 46 = .ok (.aload_n 0, 1) := by decide +kernel
theorem dX8_writeFloor_47 : decode cX8_writeFloor 47 = .ok (.getfield 289, 3) := by decide +kernel
theorem dX8_writeFloor_50 : decode cX8_writeFloor 50 = .ok (.ifCond .le 9, 3) := by decide +kernel
theorem dX8_writeFloor_53 : decode cX8_writeFloor 53 = .ok (.aload_n 0, 1) := by decide +kernel
theorem dX8_writeFloor_54 : decode cX8_writeFloor 54 = .ok (.bipush 44, 2) := by decide +kernel
theorem dX8_writeFloor_56 : decode cX8_writeFloor 56 = .ok (.invokevirtual 292, 3) := by decide +kernel
theorem dX8_writeFloor_59 : decode cX8_writeFloor 59 = .ok (.aload_n 0, 1) := by decide +kernel
theorem dX8_writeFloor_60 : decode cX8_writeFloor 60 = .ok (.iload_n 2, 1) := by decide +kernel
theorem dX8_writeFloor_61 : decode cX8_writeFloor 61 = .ok (.invokevirtual 295, 3) := by decide +kernel
theorem dX8_writeFloor_64 : decode cX8_writeFloor 64 = .ok (.iinc 2 1, 3) := by decide +kernel
theorem dX8_writeFloor_67 : decode cX8_writeFloor 67 = .ok (.goto (-47), 3) := by decide +kernel
theorem dX8_writeFloor_70 : decode cX8_writeFloor 70 = .ok (.aload_n 0, 1) := by decide +kernel
theorem dX8_writeFloor_71 : decode cX8_writeFloor 71 = .ok (.aload_n 0, 1) := by decide +kernel
theorem dX8_writeFloor_72 : decode cX8_writeFloor 72 = .ok (.getfield 289, 3) := by decide +kernel
theorem dX8_writeFloor_75 : decode cX8_writeFloor 75 = .ok (.invokevirtual 222, 3) := by decide +kernel
theorem dX8_writeFloor_78 : decode cX8_writeFloor 78 = .ok (.ireturn, 1) := by decide +kernel
theorem dX8_outputCharacter_0 : decode cX8_outputCharacter 0 = .ok (.iload_n 1, 1) := by decide +kernel
theorem dX8_outputCharacter_1 : decode cX8_outputCharacter 1 = .ok (.iconst 0, 1) := by decide +kernel
theorem dX8_outputCharacter_2 : decode cX8_outputCharacter 2 = .ok (.aload_n 0, 1) := by decide +kernel
theorem dX8_outputCharacter_3 : decode cX8_outputCharacter 3 = .ok (.getfield 289, 3) := by decide +kernel
theorem dX8_outputCharacter_6 : decode cX8_outputCharacter 6 = .ok (.iconst 1, 1) := by decide +kernel
theorem dX8_outputCharacter_7 : decode cX8_outputCharacter 7 = .ok (.isub, 1) := by decide +kernel
theorem dX8_outputCharacter_8 : decode cX8_outputCharacter 8 = .ok (.invokestatic 66, 3) := by decide +kernel
theorem dX8_outputCharacter_11 : decode cX8_outputCharacter 11 = .ok (.ifCond .ne 10, 3) := by decide +kernel
theorem dX8_outputCharacter_14 : decode cX8_outputCharacter 14 = .ok (.aload_n 0, 1) := by decide +kernel
theorem dX8_outputCharacter_15 : decode cX8_outputCharacter 15 = .ok (.iconst 1, 1) := by decide +kernel
theorem dX8_outputCharacter_16 : decode cX8_outputCharacter 16 = .ok (.putfield 63, 3) := by decide +kernel
theorem dX8_outputCharacter_19 : decode cX8_outputCharacter 19 = .ok (.iconst 0, 1) := by decide +kernel
theorem dX8_outputCharacter_20 : decode cX8_outputCharacter 20 = .ok (.ireturn, 1) := by decide +kernel
theorem dX8_outputCharacter_21 : decode cX8_outputCharacter 21 = .ok (.aload_n 0, 1) := by decide +kernel
theorem dX8_outputCharacter_22 : decode cX8_outputCharacter 22 = .ok (.iconst 0, 1) := by decide +kernel
theorem dX8_outputCharacter_23 : decode cX8_outputCharacter 23 = .ok (.putfield 63, 3) := by decide +kernel
theorem dX8_outputCharacter_26 : decode cX8_outputCharacter 26 = .ok (.aload_n 0, 1) := by decide +kernel
theorem dX8_outputCharacter_27 : decode cX8_outputCharacter 27 = .ok (.getfield 45, 3) := by decide +kernel
theorem dX8_outputCharacter_30 : decode cX8_outputCharacter 30 = .ok (.iload_n 1, 1) := by decide +kernel
theorem dX8_outputCharacter_31 : decode cX8_outputCharacter 31 = .ok (.caload, 1) := by decide +kernel
theorem dX8_outputCharacter_32 : decode cX8_outputCharacter 32 = .ok (.ireturn, 1) := by decide +kernel
