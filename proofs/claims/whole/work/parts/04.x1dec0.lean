theorem dX1_init_0 : decode cX1_init 0 = .ok (.aload_n 0, 1) := by decide +kernel
theorem dX1_init_1 : decode cX1_init 1 = .ok (.invokespecial 1, 3) := by decide +kernel
theorem dX1_init_4 : decode cX1_init 4 = .ok (.aload_n 0, 1) := by decide +kernel
theorem dX1_init_5 : decode cX1_init 5 = .ok (.bipush 8, 2) := by decide +kernel
theorem dX1_init_7 : decode cX1_init 7 = .ok (.newarray .int, 2) := by decide +kernel
theorem dX1_init_9 : decode cX1_init 9 = .ok (.putfield 7, 3) := by decide +kernel
theorem dX1_init_12 : decode cX1_init 12 = .ok (.aload_n 0, 1) := by decide +kernel
theorem dX1_init_13 : decode cX1_init 13 = .ok (.sipush 140, 3) := by decide +kernel
theorem dX1_init_16 : decode cX1_init 16 = .ok (.newarray .int, 2) := by decide +kernel
theorem dX1_init_18 : decode cX1_init 18 = .ok (.putfield 13, 3) := by decide +kernel
theorem dX1_init_21 : decode cX1_init 21 = .ok (.aload_n 0, 1) := by decide +kernel
theorem dX1_init_22 : decode cX1_init 22 = .ok (.sipush 132, 3) := by decide +kernel
theorem dX1_init_25 : decode cX1_init 25 = .ok (.newarray .int, 2) := by decide +kernel
theorem dX1_init_27 : decode cX1_init 27 = .ok (.putfield 16, 3) := by decide +kernel
theorem dX1_init_30 : decode cX1_init 30 = .ok (.aload_n 0, 1) := by decide +kernel
theorem dX1_init_31 : decode cX1_init 31 = .ok (.iconst 4, 1) := by decide +kernel
theorem dX1_init_32 : decode cX1_init 32 = .ok (.newarray .int, 2) := by decide +kernel
theorem dX1_init_34 : decode cX1_init 34 = .ok (.putfield 19, 3) := by decide +kernel
theorem dX1_init_37 : decode cX1_init 37 = .ok (.aload_n 0, 1) := by decide +kernel
theorem dX1_init_38 : decode cX1_init 38 = .ok (.sipush 256, 3) := by decide +kernel
theorem dX1_init_41 : decode cX1_init 41 = .ok (.newarray .int, 2) := by decide +kernel
theorem dX1_init_43 : decode cX1_init 43 = .ok (.putfield 22, 3) := by decide +kernel
theorem dX1_init_46 : decode cX1_init 46 = .ok (.aload_n 0, 1) := by decide +kernel
theorem dX1_init_47 : decode cX1_init 47 = .ok (.sipush 128, 3) := by decide +kernel
theorem dX1_init_50 : decode cX1_init 50 = .ok (.newarray .int, 2) := by decide +kernel
theorem dX1_init_52 : decode cX1_init 52 = .ok (.dup, 1) := by decide +kernel
theorem dX1_init_53 : decode cX1_init 53 = .ok (.iconst 0, 1) := by decide +kernel
theorem dX1_init_54 : decode cX1_init 54 = .ok (.iconst 3, 1) := by decide +kernel
theorem dX1_init_55 : decode cX1_init 55 = .ok (.iastore, 1) := by decide +kernel
theorem dX1_init_56 : decode cX1_init 56 = .ok (.dup, 1) := by decide +kernel
theorem dX1_init_57 : decode cX1_init 57 = .ok (.iconst 1, 1) := by decide +kernel
theorem dX1_init_58 : decode cX1_init 58 = .ok (.bipush 8, 2) := by decide +kernel
theorem dX1_init_60 : decode cX1_init 60 = .ok (.iastore, 1) := by decide +kernel
theorem dX1_init_61 : decode cX1_init 61 = .ok (.dup, 1) := by decide +kernel
theorem dX1_init_62 : decode cX1_init 62 = .ok (.iconst 2, 1) := by decide +kernel
theorem dX1_init_63 : decode cX1_init 63 = .ok (.bipush 15, 2) := by decide +kernel
theorem dX1_init_65 : decode cX1_init 65 = .ok (.iastore, 1) := by decide +kernel
theorem dX1_init_66 : decode cX1_init 66 = .ok (.dup, 1) := by decide +kernel
theorem dX1_init_67 : decode cX1_init 67 = .ok (.iconst 3, 1) := by decide +kernel
theorem dX1_init_68 : decode cX1_init 68 = .ok (.iconst 1, 1) := by decide +kernel
theorem dX1_init_69 : decode cX1_init 69 = .ok (.iastore, 1) := by decide +kernel
theorem dX1_init_70 : decode cX1_init 70 = .ok (.dup, 1) := by decide +kernel
theorem dX1_init_71 : decode cX1_init 71 = .ok (.iconst 4, 1) := by decide +kernel
theorem dX1_init_72 : decode cX1_init 72 = .ok (.bipush 10, 2) := by decide +kernel
theorem dX1_init_74 : decode cX1_init 74 = .ok (.iastore, 1) := by decide +kernel
theorem dX1_init_75 : decode cX1_init 75 = .ok (.dup, 1) := by decide +kernel
theorem dX1_init_76 : decode cX1_init 76 = .ok (.iconst 5, 1) := by decide +kernel
theorem dX1_init_77 : decode cX1_init 77 = .ok (.bipush 6, 2) := by decide +kernel
theorem dX1_init_79 : decode cX1_init 79 = .ok (.iastore, 1) := by decide +kernel
theorem dX1_init_80 : decode cX1_init 80 = .ok (.dup, 1) := by decide +kernel
theorem dX1_init_81 : decode cX1_init 81 = .ok (.bipush 6, 2) := by decide +kernel
theorem dX1_init_83 : decode cX1_init 83 = .ok (.iconst 5, 1) := by decide +kernel
theorem dX1_init_84 : decode cX1_init 84 = .ok (.iastore, 1) := by decide +kernel
theorem dX1_init_85 : decode cX1_init 85 = .ok (.dup, 1) := by decide +kernel
theorem dX1_init_86 : decode cX1_init 86 = .ok (.bipush 7, 2) := by decide +kernel
theorem dX1_init_88 : decode cX1_init 88 = .ok (.bipush 11, 2) := by decide +kernel
theorem dX1_init_90 : decode cX1_init 90 = .ok (.iastore, 1) := by decide +kernel
theorem dX1_init_91 : decode cX1_init 91 = .ok (.dup, 1) := by decide +kernel
theorem dX1_init_92 : decode cX1_init 92 = .ok (.bipush 8, 2) := by decide +kernel
theorem dX1_init_94 : decode cX1_init 94 = .ok (.bipush 14, 2) := by decide +kernel
theorem dX1_init_96 : decode cX1_init 96 = .ok (.iastore, 1) := by decide +kernel
theorem dX1_init_97 : decode cX1_init 97 = .ok (.dup, 1) := by decide +kernel
theorem dX1_init_98 : decode cX1_init 98 = .ok (.bipush 9, 2) := by decide +kernel
theorem dX1_init_100 : decode cX1_init 100 = .ok (.bipush 13, 2) := by decide +kernel
theorem dX1_init_102 : decode cX1_init 102 = .ok (.iastore, 1) := by decide +kernel
theorem dX1_init_103 : decode cX1_init 103 = .ok (.dup, 1) := by decide +kernel
theorem dX1_init_104 : decode cX1_init 104 = .ok (.bipush 10, 2) := by decide +kernel
theorem dX1_init_106 : decode cX1_init 106 = .ok (.iconst 4, 1) := by decide +kernel
theorem dX1_init_107 : decode cX1_init 107 = .ok (.iastore, 1) := by decide +kernel
theorem dX1_init_108 : decode cX1_init 108 = .ok (.dup, 1) := by decide +kernel
theorem dX1_init_109 : decode cX1_init 109 = .ok (.bipush 11, 2) := by decide +kernel
theorem dX1_init_111 : decode cX1_init 111 = .ok (.iconst 2, 1) := by decide +kernel
theorem dX1_init_112 : decode cX1_init 112 = .ok (.iastore, 1) := by decide +kernel
theorem dX1_init_113 : decode cX1_init 113 = .ok (.dup, 1) := by decide +kernel
theorem dX1_init_114 : decode cX1_init 114 = .ok (.bipush 12, 2) := by decide +kernel
theorem dX1_init_116 : decode cX1_init 116 = .ok (.bipush 7, 2) := by decide +kernel
theorem dX1_init_118 : decode cX1_init 118 = .ok (.iastore, 1) := by decide +kernel
theorem dX1_init_119 : decode cX1_init 119 = .ok (.dup, 1) := by decide +kernel
theorem dX1_init_120 : decode cX1_init 120 = .ok (.bipush 13, 2) := by decide +kernel
theorem dX1_init_122 : decode cX1_init 122 = .ok (.iconst 0, 1) := by decide +kernel
theorem dX1_init_123 : decode cX1_init 123 = .ok (.iastore, 1) := by decide +kernel
theorem dX1_init_124 : decode cX1_init 124 = .ok (.dup, 1) := by decide +kernel
theorem dX1_init_125 : decode cX1_init 125 = .ok (.bipush 14, 2) := by decide +kernel
theorem dX1_init_127 : decode cX1_init 127 = .ok (.bipush 9, 2) := by decide +kernel
theorem dX1_init_129 : decode cX1_init 129 = .ok (.iastore, 1) := by decide +kernel
theorem dX1_init_130 : decode cX1_init 130 = .ok (.dup, 1) := by decide +kernel
theorem dX1_init_131 : decode cX1_init 131 = .ok (.bipush 15, 2) := by decide +kernel
theorem dX1_init_133 : decode cX1_init 133 = .ok (.bipush 12, 2) := by decide +kernel
theorem dX1_init_135 : decode cX1_init 135 = .ok (.iastore, 1) := by decide +kernel
theorem dX1_init_136 : decode cX1_init 136 = .ok (.dup, 1) := by decide +kernel
theorem dX1_init_137 : decode cX1_init 137 = .ok (.bipush 16, 2) := by decide +kernel
theorem dX1_init_139 : decode cX1_init 139 = .ok (.bipush 15, 2) := by decide +kernel
theorem dX1_init_141 : decode cX1_init 141 = .ok (.iastore, 1) := by decide +kernel
theorem dX1_init_142 : decode cX1_init 142 = .ok (.dup, 1) := by decide +kernel
theorem dX1_init_143 : decode cX1_init 143 = .ok (.bipush 17, 2) := by decide +kernel
theorem dX1_init_145 : decode cX1_init 145 = .ok (.bipush 12, 2) := by decide +kernel
theorem dX1_init_147 : decode cX1_init 147 = .ok (.iastore, 1) := by decide +kernel
theorem dX1_init_148 : decode cX1_init 148 = .ok (.dup, 1) := by decide +kernel
theorem dX1_init_149 : decode cX1_init 149 = .ok (.bipush 18, 2) := by decide +kernel
theorem dX1_init_151 : decode cX1_init 151 = .ok (.iconst 2, 1) := by decide +kernel
theorem dX1_init_152 : decode cX1_init 152 = .ok (.iastore, 1) := by decide +kernel
theorem dX1_init_153 : decode cX1_init 153 = .ok (.dup, 1) := by decide +kernel
theorem dX1_init_154 : decode cX1_init 154 = .ok (.bipush 19, 2) := by decide +kernel
theorem dX1_init_156 : decode cX1_init 156 = .ok (.bipush 7, 2) := by decide +kernel
theorem dX1_init_158 : decode cX1_init 158 = .ok (.iastore, 1) := by decide +kernel
theorem dX1_init_159 : decode cX1_init 159 = .ok (.dup, 1) := by decide +kernel
theorem dX1_init_160 : decode cX1_init 160 = .ok (.bipush 20, 2) := by decide +kernel
theorem dX1_init_162 : decode cX1_init 162 = .ok (.bipush 9, 2) := by decide +kernel
theorem dX1_init_164 : decode cX1_init 164 = .ok (.iastore, 1) := by decide +kernel
theorem dX1_init_165 : decode cX1_init 165 = .ok (.dup, 1) := by decide +kernel
theorem dX1_init_166 : decode cX1_init 166 = .ok (.bipush 21, 2) := by decide +kernel
theorem dX1_init_168 : decode cX1_init 168 = .ok (.iconst 0, 1) := by decide +kernel
theorem dX1_init_169 : decode cX1_init 169 = .ok (.iastore, 1) := by decide +kernel
theorem dX1_init_170 : decode cX1_init 170 = .ok (.dup, 1) := by decide +kernel
theorem dX1_init_171 : decode cX1_init 171 = .ok (.bipush 22, 2) := by decide +kernel
theorem dX1_init_173 : decode cX1_init 173 = .ok (.iconst 5, 1) := by decide +kernel
theorem dX1_init_174 : decode cX1_init 174 = .ok (.iastore, 1) := by decide +kernel
theorem dX1_init_175 : decode cX1_init 175 = .ok (.dup, 1) := by decide +kernel
theorem dX1_init_176 : decode cX1_init 176 = .ok (.bipush 23, 2) := by decide +kernel
theorem dX1_init_178 : decode cX1_init 178 = .ok (.bipush 10, 2) := by decide +kernel
theorem dX1_init_180 : decode cX1_init 180 = .ok (.iastore, 1) := by decide +kernel
theorem dX1_init_181 : decode cX1_init 181 = .ok (.dup, 1) := by decide +kernel
theorem dX1_init_182 : decode cX1_init 182 = .ok (.bipush 24, 2) := by decide +kernel
theorem dX1_init_184 : decode cX1_init 184 = .ok (.iconst 1, 1) := by decide +kernel
theorem dX1_init_185 : decode cX1_init 185 = .ok (.iastore, 1) := by decide +kernel
theorem dX1_init_186 : decode cX1_init 186 = .ok (.dup, 1) := by decide +kernel
theorem dX1_init_187 : decode cX1_init 187 = .ok (.bipush 25, 2) := by decide +kernel
theorem dX1_init_189 : decode cX1_init 189 = .ok (.bipush 11, 2) := by decide +kernel
theorem dX1_init_191 : decode cX1_init 191 = .ok (.iastore, 1) := by decide +kernel
theorem dX1_init_192 : decode cX1_init 192 = .ok (.dup, 1) := by decide +kernel
theorem dX1_init_193 : decode cX1_init 193 = .ok (.bipush 26, 2) := by decide +kernel
theorem dX1_init_195 : decode cX1_init 195 = .ok (.bipush 14, 2) := by decide +kernel
theorem dX1_init_197 : decode cX1_init 197 = .ok (.iastore, 1) := by decide +kernel
theorem dX1_init_198 : decode cX1_init 198 = .ok (.dup, 1) := by decide +kernel
theorem dX1_init_199 : decode cX1_init 199 = .ok (.bipush 27, 2) := by decide +kernel
theorem dX1_init_201 : decode cX1_init 201 = .ok (.bipush 8, 2) := by decide +kernel
theorem dX1_init_203 : decode cX1_init 203 = .ok (.iastore, 1) := by decide +kernel
theorem dX1_init_204 : decode cX1_init 204 = .ok (.dup, 1) := by decide +kernel
theorem dX1_init_205 : decode cX1_init 205 = .ok (.bipush 28, 2) := by decide +kernel
theorem dX1_init_207 : decode cX1_init 207 = .ok (.bipush 6, 2) := by decide +kernel
theorem dX1_init_209 : decode cX1_init 209 = .ok (.iastore, 1) := by decide +kernel
theorem dX1_init_210 : decode cX1_init 210 = .ok (.dup, 1) := by decide +kernel
theorem dX1_init_211 : decode cX1_init 211 = .ok (.bipush 29, 2) := by decide +kernel
theorem dX1_init_213 : decode cX1_init 213 = .ok (.bipush 13, 2) := by decide +kernel
theorem dX1_init_215 : decode cX1_init 215 = .ok (.iastore, 1) := by decide +kernel
theorem dX1_init_216 : decode cX1_init 216 = .ok (.dup, 1) := by decide +kernel
theorem dX1_init_217 : decode cX1_init 217 = .ok (.bipush 30, 2) := by decide +kernel
theorem dX1_init_219 : decode cX1_init 219 = .ok (.iconst 3, 1) := by decide +kernel
theorem dX1_init_220 : decode cX1_init 220 = .ok (.iastore, 1) := by decide +kernel
theorem dX1_init_221 : decode cX1_init 221 = .ok (.dup, 1) := by decide +kernel
theorem dX1_init_222 : decode cX1_init 222 = .ok (.bipush 31, 2) := by decide +kernel
theorem dX1_init_224 : decode cX1_init 224 = .ok (.iconst 4, 1) := by decide +kernel
theorem dX1_init_225 : decode cX1_init 225 = .ok (.iastore, 1) := by decide +kernel
theorem dX1_init_226 : decode cX1_init 226 = .ok (.dup, 1) := by decide +kernel
theorem dX1_init_227 : decode cX1_init 227 = .ok (.bipush 32, 2) := by decide +kernel
theorem dX1_init_229 : decode cX1_init 229 = .ok (.bipush 8, 2) := by decide +kernel
theorem dX1_init_231 : decode cX1_init 231 = .ok (.iastore, 1) := by decide +kernel
theorem dX1_init_232 : decode cX1_init 232 = .ok (.dup, 1) := by decide +kernel
theorem dX1_init_233 : decode cX1_init 233 = .ok (.bipush 33, 2) := by decide +kernel
theorem dX1_init_235 : decode cX1_init 235 = .ok (.bipush 6, 2) := by decide +kernel
theorem dX1_init_237 : decode cX1_init 237 = .ok (.iastore, 1) := by decide +kernel
theorem dX1_init_238 : decode cX1_init 238 = .ok (.dup, 1) := by decide +kernel
theorem dX1_init_239 : decode cX1_init 239 = .ok (.bipush 34, 2) := by decide +kernel
theorem dX1_init_241 : decode cX1_init 241 = .ok (.bipush 7, 2) := by decide +kernel
theorem dX1_init_243 : decode cX1_init 243 = .ok (.iastore, 1) := by decide +kernel
theorem dX1_init_244 : decode cX1_init 244 = .ok (.dup, 1) := by decide +kernel
theorem dX1_init_245 : decode cX1_init 245 = .ok (.bipush 35, 2) := by decide +kernel
theorem dX1_init_247 : decode cX1_init 247 = .ok (.bipush 9, 2) := by decide +kernel
theorem dX1_init_249 : decode cX1_init 249 = .ok (.iastore, 1) := by decide +kernel
theorem dX1_init_250 : decode cX1_init 250 = .ok (.dup, 1) := by decide +kernel
theorem dX1_init_251 : decode cX1_init 251 = .ok (.bipush 36, 2) := by decide +kernel
theorem dX1_init_253 : decode cX1_init 253 = .ok (.iconst 3, 1) := by decide +kernel
theorem dX1_init_254 : decode cX1_init 254 = .ok (.iastore, 1) := by decide +kernel
theorem dX1_init_255 : decode cX1_init 255 = .ok (.dup, 1) := by decide +kernel
theorem dX1_init_256 : decode cX1_init 256 = .ok (.bipush 37, 2) := by decide +kernel
theorem dX1_init_258 : decode cX1_init 258 = .ok (.bipush 12, 2) := by decide +kernel
theorem dX1_init_260 : decode cX1_init 260 = .ok (.iastore, 1) := by decide +kernel
theorem dX1_init_261 : decode cX1_init 261 = .ok (.dup, 1) := by decide +kernel
theorem dX1_init_262 : decode cX1_init 262 = .ok (.bipush 38, 2) := by decide +kernel
theorem dX1_init_264 : decode cX1_init 264 = .ok (.bipush 10, 2) := by decide +kernel
theorem dX1_init_266 : decode cX1_init 266 = .ok (.iastore, 1) := by decide +kernel
theorem dX1_init_267 : decode cX1_init 267 = .ok (.dup, 1) := by decide +kernel
theorem dX1_init_268 : decode cX1_init 268 = .ok (.bipush 39, 2) := by decide +kernel
theorem dX1_init_270 : decode cX1_init 270 = .ok (.bipush 15, 2) := by decide +kernel
theorem dX1_init_272 : decode cX1_init 272 = .ok (.iastore, 1) := by decide +kernel
theorem dX1_init_273 : decode cX1_init 273 = .ok (.dup, 1) := by decide +kernel
theorem dX1_init_274 : decode cX1_init 274 = .ok (.bipush 40, 2) := by decide +kernel
theorem dX1_init_276 : decode cX1_init 276 = .ok (.bipush 13, 2) := by decide +kernel
theorem dX1_init_278 : decode cX1_init 278 = .ok (.iastore, 1) := by decide +kernel
theorem dX1_init_279 : decode cX1_init 279 = .ok (.dup, 1) := by decide +kernel
theorem dX1_init_280 : decode cX1_init 280 = .ok (.bipush 41, 2) := by decide +kernel
theorem dX1_init_282 : decode cX1_init 282 = .ok (.iconst 1, 1) := by decide +kernel
theorem dX1_init_283 : decode cX1_init 283 = .ok (.iastore, 1) := by decide +kernel
theorem dX1_init_284 : decode cX1_init 284 = .ok (.dup, 1) := by decide +kernel
theorem dX1_init_285 : decode cX1_init 285 = .ok (.bipush 42, 2) := by decide +kernel
theorem dX1_init_287 : decode cX1_init 287 = .ok (.bipush 14, 2) := by decide +kernel
theorem dX1_init_289 : decode cX1_init 289 = .ok (.iastore, 1) := by decide +kernel
theorem dX1_init_290 : decode cX1_init 290 = .ok (.dup, 1) := by decide +kernel
theorem dX1_init_291 : decode cX1_init 291 = .ok (.bipush 43, 2) := by decide +kernel
theorem dX1_init_293 : decode cX1_init 293 = .ok (.iconst 4, 1) := by decide +kernel
theorem dX1_init_294 : decode cX1_init 294 = .ok (.iastore, 1) := by decide +kernel
theorem dX1_init_295 : decode cX1_init 295 = .ok (.dup, 1) := by decide +kernel
theorem dX1_init_296 : decode cX1_init 296 = .ok (.bipush 44, 2) := by decide +kernel
theorem dX1_init_298 : decode cX1_init 298 = .ok (.iconst 0, 1) := by decide +kernel
theorem dX1_init_299 : decode cX1_init 299 = .ok (.iastore, 1) := by decide +kernel
theorem dX1_init_300 : decode cX1_init 300 = .ok (.dup, 1) := by decide +kernel
theorem dX1_init_301 : decode cX1_init 301 = .ok (.bipush 45, 2) := by decide +kernel
theorem dX1_init_303 : decode cX1_init 303 = .ok (.bipush 11, 2) := by decide +kernel
theorem dX1_init_305 : decode cX1_init 305 = .ok (.iastore, 1) := by decide +kernel
theorem dX1_init_306 : decode cX1_init 306 = .ok (.dup, 1) := by decide +kernel
theorem dX1_init_307 : decode cX1_init 307 = .ok (.bipush 46, 2) := by decide +kernel
theorem dX1_init_309 : decode cX1_init 309 = .ok (.iconst 5, 1) := by decide +kernel
theorem dX1_init_310 : decode cX1_init 310 = .ok (.iastore, 1) := by decide +kernel
theorem dX1_init_311 : decode cX1_init 311 = .ok (.dup, 1) := by decide +kernel
theorem dX1_init_312 : decode cX1_init 312 = .ok (.bipush 47, 2) := by decide +kernel
theorem dX1_init_314 : decode cX1_init 314 = .ok (.iconst 2, 1) := by decide +kernel
theorem dX1_init_315 : decode cX1_init 315 = .ok (.iastore, 1) := by decide +kernel
theorem dX1_init_316 : decode cX1_init 316 = .ok (.dup, 1) := by decide +kernel
theorem dX1_init_317 : decode cX1_init 317 = .ok (.bipush 48, 2) := by decide +kernel
theorem dX1_init_319 : decode cX1_init 319 = .ok (.iconst 0, 1) := by decide +kernel
theorem dX1_init_320 : decode cX1_init 320 = .ok (.iastore, 1) := by decide +kernel
theorem dX1_init_321 : decode cX1_init 321 = .ok (.dup, 1) := by decide +kernel
theorem dX1_init_322 : decode cX1_init 322 = .ok (.bipush 49, 2) := by decide +kernel
theorem dX1_init_324 : decode cX1_init 324 = .ok (.bipush 15, 2) := by decide +kernel
theorem dX1_init_326 : decode cX1_init 326 = .ok (.iastore, 1) := by decide +kernel
theorem dX1_init_327 : decode cX1_init 327 = .ok (.dup, 1) := by decide +kernel
theorem dX1_init_328 : decode cX1_init 328 = .ok (.bipush 50, 2) := by decide +kernel
theorem dX1_init_330 : decode cX1_init 330 = .ok (.bipush 11, 2) := by decide +kernel
theorem dX1_init_332 : decode cX1_init 332 = .ok (.iastore, 1) := by decide +kernel
theorem dX1_init_333 : decode cX1_init 333 = .ok (.dup, 1) := by decide +kernel
theorem dX1_init_334 : decode cX1_init 334 = .ok (.bipush 51, 2) := by decide +kernel
theorem dX1_init_336 : decode cX1_init 336 = .ok (.bipush 8, 2) := by decide +kernel
theorem dX1_init_338 : decode cX1_init 338 = .ok (.iastore, 1) := by decide +kernel
theorem dX1_init_339 : decode cX1_init 339 = .ok (.dup, 1) := by decide +kernel
theorem dX1_init_340 : decode cX1_init 340 = .ok (.bipush 52, 2) := by decide +kernel
theorem dX1_init_342 : decode cX1_init 342 = .ok (.bipush 12, 2) := by decide +kernel
theorem dX1_init_344 : decode cX1_init 344 = .ok (.iastore, 1) := by decide +kernel
theorem dX1_init_345 : decode cX1_init 345 = .ok (.dup, 1) := by decide +kernel
theorem dX1_init_346 : decode cX1_init 346 = .ok (.bipush 53, 2) := by decide +kernel
theorem dX1_init_348 : decode cX1_init 348 = .ok (.bipush 9, 2) := by decide +kernel
theorem dX1_init_350 : decode cX1_init 350 = .ok (.iastore, 1) := by decide +kernel
theorem dX1_init_351 : decode cX1_init 351 = .ok (.dup, 1) := by decide +kernel
theorem dX1_init_352 : decode cX1_init 352 = .ok (.bipush 54, 2) := by decide +kernel
theorem dX1_init_354 : decode cX1_init 354 = .ok (.bipush 6, 2) := by decide +kernel
theorem dX1_init_356 : decode cX1_init 356 = .ok (.iastore, 1) := by decide +kernel
theorem dX1_init_357 : decode cX1_init 357 = .ok (.dup, 1) := by decide +kernel
theorem dX1_init_358 : decode cX1_init 358 = .ok (.bipush 55, 2) := by decide +kernel
theorem dX1_init_360 : decode cX1_init 360 = .ok (.iconst 3, 1) := by decide +kernel
theorem dX1_init_361 : decode cX1_init 361 = .ok (.iastore, 1) := by decide +kernel
theorem dX1_init_362 : decode cX1_init 362 = .ok (.dup, 1) := by decide +kernel
theorem dX1_init_363 : decode cX1_init 363 = .ok (.bipush 56, 2) := by decide +kernel
theorem dX1_init_365 : decode cX1_init 365 = .ok (.bipush 13, 2) := by decide +kernel
theorem dX1_init_367 : decode cX1_init 367 = .ok (.iastore, 1) := by decide +kernel
theorem dX1_init_368 : decode cX1_init 368 = .ok (.dup, 1) := by decide +kernel
theorem dX1_init_369 : decode cX1_init 369 = .ok (.bipush 57, 2) := by decide +kernel
theorem dX1_init_371 : decode cX1_init 371 = .ok (.iconst 1, 1) := by decide +kernel
theorem dX1_init_372 : decode cX1_init 372 = .ok (.iastore, 1) := by decide +kernel
theorem dX1_init_373 : decode cX1_init 373 = .ok (.dup, 1) := by decide +kernel
theorem dX1_init_374 : decode cX1_init 374 = .ok (.bipush 58, 2) := by decide +kernel
theorem dX1_init_376 : decode cX1_init 376 = .ok (.iconst 2, 1) := by decide +kernel
theorem dX1_init_377 : decode cX1_init 377 = .ok (.iastore, 1) := by decide +kernel
theorem dX1_init_378 : decode cX1_init 378 = .ok (.dup, 1) := by decide +kernel
theorem dX1_init_379 : decode cX1_init 379 = .ok (.bipush 59, 2) := by decide +kernel
theorem dX1_init_381 : decode cX1_init 381 = .ok (.iconst 4, 1) := by decide +kernel
theorem dX1_init_382 : decode cX1_init 382 = .ok (.iastore, 1) := by decide +kernel
theorem dX1_init_383 : decode cX1_init 383 = .ok (.dup, 1) := by decide +kernel
theorem dX1_init_384 : decode cX1_init 384 = .ok (.bipush 60, 2) := by decide +kernel
theorem dX1_init_386 : decode cX1_init 386 = .ok (.bipush 10, 2) := by decide +kernel
theorem dX1_init_388 : decode cX1_init 388 = .ok (.iastore, 1) := by decide +kernel
theorem dX1_init_389 : decode cX1_init 389 = .ok (.dup, 1) := by decide +kernel
theorem dX1_init_390 : decode cX1_init 390 = .ok (.bipush 61, 2) := by decide +kernel
theorem dX1_init_392 : decode cX1_init 392 = .ok (.bipush 7, 2) := by decide +kernel
theorem dX1_init_394 : decode cX1_init 394 = .ok (.iastore, 1) := by decide +kernel
theorem dX1_init_395 : decode cX1_init 395 = .ok (.dup, 1) := by decide +kernel
theorem dX1_init_396 : decode cX1_init 396 = .ok (.bipush 62, 2) := by decide +kernel
theorem dX1_init_398 : decode cX1_init 398 = .ok (.iconst 5, 1) := by decide +kernel
theorem dX1_init_399 : decode cX1_init 399 = .ok (.iastore, 1) := by decide +kernel
theorem dX1_init_400 : decode cX1_init 400 = .ok (.dup, 1) := by decide +kernel
theorem dX1_init_401 : decode cX1_init 401 = .ok (.bipush 63, 2) := by decide +kernel
theorem dX1_init_403 : decode cX1_init 403 = .ok (.bipush 14, 2) := by decide +kernel
theorem dX1_init_405 : decode cX1_init 405 = .ok (.iastore, 1) := by decide +kernel
theorem dX1_init_406 : decode cX1_init 406 = .ok (.dup, 1) := by decide +kernel
theorem dX1_init_407 : decode cX1_init 407 = .ok (.bipush 64, 2) := by decide +kernel
theorem dX1_init_409 : decode cX1_init 409 = .ok (.iconst 1, 1) := by decide +kernel
theorem dX1_init_410 : decode cX1_init 410 = .ok (.iastore, 1) := by decide +kernel
theorem dX1_init_411 : decode cX1_init 411 = .ok (.dup, 1) := by decide +kernel
theorem dX1_init_412 : decode cX1_init 412 = .ok (.bipush 65, 2) := by decide +kernel
theorem dX1_init_414 : decode cX1_init 414 = .ok (.bipush 15, 2) := by decide +kernel
theorem dX1_init_416 : decode cX1_init 416 = .ok (.iastore, 1) := by decide +kernel
theorem dX1_init_417 : decode cX1_init 417 = .ok (.dup, 1) := by decide +kernel
theorem dX1_init_418 : decode cX1_init 418 = .ok (.bipush 66, 2) := by decide +kernel
theorem dX1_init_420 : decode cX1_init 420 = .ok (.bipush 8, 2) := by decide +kernel
theorem dX1_init_422 : decode cX1_init 422 = .ok (.iastore, 1) := by decide +kernel
theorem dX1_init_423 : decode cX1_init 423 = .ok (.dup, 1) := by decide +kernel
theorem dX1_init_424 : decode cX1_init 424 = .ok (.bipush 67, 2) := by decide +kernel
theorem dX1_init_426 : decode cX1_init 426 = .ok (.iconst 3, 1) := by decide +kernel
theorem dX1_init_427 : decode cX1_init 427 = .ok (.iastore, 1) := by decide +kernel
theorem dX1_init_428 : decode cX1_init 428 = .ok (.dup, 1) := by decide +kernel
theorem dX1_init_429 : decode cX1_init 429 = .ok (.bipush 68, 2) := by decide +kernel
theorem dX1_init_431 : decode cX1_init 431 = .ok (.bipush 12, 2) := by decide +kernel
theorem dX1_init_433 : decode cX1_init 433 = .ok (.iastore, 1) := by decide +kernel
theorem dX1_init_434 : decode cX1_init 434 = .ok (.dup, 1) := by decide +kernel
theorem dX1_init_435 : decode cX1_init 435 = .ok (.bipush 69, 2) := by decide +kernel
theorem dX1_init_437 : decode cX1_init 437 = .ok (.iconst 0, 1) := by decide +kernel
theorem dX1_init_438 : decode cX1_init 438 = .ok (.iastore, 1) := by decide +kernel
theorem dX1_init_439 : decode cX1_init 439 = .ok (.dup, 1) := by decide +kernel
theorem dX1_init_440 : decode cX1_init 440 = .ok (.bipush 70, 2) := by decide +kernel
theorem dX1_init_442 : decode cX1_init 442 = .ok (.bipush 11, 2) := by decide +kernel
theorem dX1_init_444 : decode cX1_init 444 = .ok (.iastore, 1) := by decide +kernel
theorem dX1_init_445 : decode cX1_init 445 = .ok (.dup, 1) := by decide +kernel
theorem dX1_init_446 : decode cX1_init 446 = .ok (.bipush 71, 2) := by decide +kernel
theorem dX1_init_448 : decode cX1_init 448 = .ok (.bipush 6, 2) := by decide +kernel
theorem dX1_init_450 : decode cX1_init 450 = .ok (.iastore, 1) := by decide +kernel
theorem dX1_init_451 : decode cX1_init 451 = .ok (.dup, 1) := by decide +kernel
theorem dX1_init_452 : decode cX1_init 452 = .ok (.bipush 72, 2) := by decide +kernel
theorem dX1_init_454 : decode cX1_init 454 = .ok (.iconst 2, 1) := by decide +kernel
theorem dX1_init_455 : decode cX1_init 455 = .ok (.iastore, 1) := by decide +kernel
theorem dX1_init_456 : decode cX1_init 456 = .ok (.dup, 1) := by decide +kernel
theorem dX1_init_457 : decode cX1_init 457 = .ok (.bipush 73, 2) := by decide +kernel
theorem dX1_init_459 : decode cX1_init 459 = .ok (.iconst 5, 1) := by decide +kernel
theorem dX1_init_460 : decode cX1_init 460 = .ok (.iastore, 1) := by decide +kernel
theorem dX1_init_461 : decode cX1_init 461 = .ok (.dup, 1) := by decide +kernel
theorem dX1_init_462 : decode cX1_init 462 = .ok (.bipush 74, 2) := by decide +kernel
theorem dX1_init_464 : decode cX1_init 464 = .ok (.iconst 4, 1) := by decide +kernel
theorem dX1_init_465 : decode cX1_init 465 = .ok (.iastore, 1) := by decide +kernel
theorem dX1_init_466 : decode cX1_init 466 = .ok (.dup, 1) := by decide +kernel
theorem dX1_init_467 : decode cX1_init 467 = .ok (.bipush 75, 2) := by decide +kernel
theorem dX1_init_469 : decode cX1_init 469 = .ok (.bipush 10, 2) := by decide +kernel
theorem dX1_init_471 : decode cX1_init 471 = .ok (.iastore, 1) := by decide +kernel
theorem dX1_init_472 : decode cX1_init 472 = .ok (.dup, 1) := by decide +kernel
theorem dX1_init_473 : decode cX1_init 473 = .ok (.bipush 76, 2) := by decide +kernel
theorem dX1_init_475 : decode cX1_init 475 = .ok (.bipush 9, 2) := by decide +kernel
theorem dX1_init_477 : decode cX1_init 477 = .ok (.iastore, 1) := by decide +kernel
theorem dX1_init_478 : decode cX1_init 478 = .ok (.dup, 1) := by decide +kernel
theorem dX1_init_479 : decode cX1_init 479 = .ok (.bipush 77, 2) := by decide +kernel
theorem dX1_init_481 : decode cX1_init 481 = .ok (.bipush 14, 2) := by decide +kernel
theorem dX1_init_483 : decode cX1_init 483 = .ok (.iastore, 1) := by decide +kernel
theorem dX1_init_484 : decode cX1_init 484 = .ok (.dup, 1) := by decide +kernel
theorem dX1_init_485 : decode cX1_init 485 = .ok (.bipush 78, 2) := by decide +kernel
theorem dX1_init_487 : decode cX1_init 487 = .ok (.bipush 7, 2) := by decide +kernel
theorem dX1_init_489 : decode cX1_init 489 = .ok (.iastore, 1) := by decide +kernel
theorem dX1_init_490 : decode cX1_init 490 = .ok (.dup, 1) := by decide +kernel
theorem dX1_init_491 : decode cX1_init 491 = .ok (.bipush 79, 2) := by decide +kernel
theorem dX1_init_493 : decode cX1_init 493 = .ok (.bipush 13, 2) := by decide +kernel
theorem dX1_init_495 : decode cX1_init 495 = .ok (.iastore, 1) := by decide +kernel
theorem dX1_init_496 : decode cX1_init 496 = .ok (.dup, 1) := by decide +kernel
theorem dX1_init_497 : decode cX1_init 497 = .ok (.bipush 80, 2) := by decide +kernel
theorem dX1_init_499 : decode cX1_init 499 = .ok (.bipush 15, 2) := by decide +kernel
theorem dX1_init_501 : decode cX1_init 501 = .ok (.iastore, 1) := by decide +kernel
theorem dX1_init_502 : decode cX1_init 502 = .ok (.dup, 1) := by decide +kernel
theorem dX1_init_503 : decode cX1_init 503 = .ok (.bipush 81, 2) := by decide +kernel
theorem dX1_init_505 : decode cX1_init 505 = .ok (.iconst 5, 1) := by decide +kernel
theorem dX1_init_506 : decode cX1_init 506 = .ok (.iastore, 1) := by decide +kernel
theorem dX1_init_507 : decode cX1_init 507 = .ok (.dup, 1) := by decide +kernel
theorem dX1_init_508 : decode cX1_init 508 = .ok (.bipush 82, 2) := by decide +kernel
theorem dX1_init_510 : decode cX1_init 510 = .ok (.iconst 2, 1) := by decide +kernel
theorem dX1_init_511 : decode cX1_init 511 = .ok (.iastore, 1) := by decide +kernel
theorem dX1_init_512 : decode cX1_init 512 = .ok (.dup, 1) := by decide +kernel
theorem dX1_init_513 : decode cX1_init 513 = .ok (.bipush 83, 2) := by decide +kernel
theorem dX1_init_515 : decode cX1_init 515 = .ok (.bipush 11, 2) := by decide +kernel
theorem dX1_init_517 : decode cX1_init 517 = .ok (.iastore, 1) := by decide +kernel
theorem dX1_init_518 : decode cX1_init 518 = .ok (.dup, 1) := by decide +kernel
theorem dX1_init_519 : decode cX1_init 519 = .ok (.bipush 84, 2) := by decide +kernel
theorem dX1_init_521 : decode cX1_init 521 = .ok (.iconst 4, 1) := by decide +kernel
theorem dX1_init_522 : decode cX1_init 522 = .ok (.iastore, 1) := by decide +kernel
theorem dX1_init_523 : decode cX1_init 523 = .ok (.dup, 1) := by decide +kernel
theorem dX1_init_524 : decode cX1_init 524 = .ok (.bipush 85, 2) := by decide +kernel
theorem dX1_init_526 : decode cX1_init 526 = .ok (.bipush 10, 2) := by decide +kernel
theorem dX1_init_528 : decode cX1_init 528 = .ok (.iastore, 1) := by decide +kernel
theorem dX1_init_529 : decode cX1_init 529 = .ok (.dup, 1) := by decide +kernel
theorem dX1_init_530 : decode cX1_init 530 = .ok (.bipush 86, 2) := by decide +kernel
theorem dX1_init_532 : decode cX1_init 532 = .ok (.bipush 9, 2) := by decide +kernel
theorem dX1_init_534 : decode cX1_init 534 = .ok (.iastore, 1) := by decide +kernel
theorem dX1_init_535 : decode cX1_init 535 = .ok (.dup, 1) := by decide +kernel
theorem dX1_init_536 : decode cX1_init 536 = .ok (.bipush 87, 2) := by decide +kernel
theorem dX1_init_538 : decode cX1_init 538 = .ok (.bipush 12, 2) := by decide +kernel
theorem dX1_init_540 : decode cX1_init 540 = .ok (.iastore, 1) := by decide +kernel
theorem dX1_init_541 : decode cX1_init 541 = .ok (.dup, 1) := by decide +kernel
theorem dX1_init_542 : decode cX1_init 542 = .ok (.bipush 88, 2) := by decide +kernel
theorem dX1_init_544 : decode cX1_init 544 = .ok (.iconst 0, 1) := by decide +kernel
theorem dX1_init_545 : decode cX1_init 545 = .ok (.iastore, 1) := by decide +kernel
theorem dX1_init_546 : decode cX1_init 546 = .ok (.dup, 1) := by decide +kernel
theorem dX1_init_547 : decode cX1_init 547 = .ok (.bipush 89, 2) := by decide +kernel
theorem dX1_init_549 : decode cX1_init 549 = .ok (.iconst 3, 1) := by decide +kernel
theorem dX1_init_550 : decode cX1_init 550 = .ok (.iastore, 1) := by decide +kernel
theorem dX1_init_551 : decode cX1_init 551 = .ok (.dup, 1) := by decide +kernel
theorem dX1_init_552 : decode cX1_init 552 = .ok (.bipush 90, 2) := by decide +kernel
theorem dX1_init_554 : decode cX1_init 554 = .ok (.bipush 14, 2) := by decide +kernel
theorem dX1_init_556 : decode cX1_init 556 = .ok (.iastore, 1) := by decide +kernel
theorem dX1_init_557 : decode cX1_init 557 = .ok (.dup, 1) := by decide +kernel
theorem dX1_init_558 : decode cX1_init 558 = .ok (.bipush 91, 2) := by decide +kernel
theorem dX1_init_560 : decode cX1_init 560 = .ok (.bipush 8, 2) := by decide +kernel
theorem dX1_init_562 : decode cX1_init 562 = .ok (.iastore, 1) := by decide +kernel
theorem dX1_init_563 : decode cX1_init 563 = .ok (.dup, 1) := by decide +kernel
theorem dX1_init_564 : decode cX1_init 564 = .ok (.bipush 92, 2) := by decide +kernel
theorem dX1_init_566 : decode cX1_init 566 = .ok (.bipush 13, 2) := by decide +kernel
theorem dX1_init_568 : decode cX1_init 568 = .ok (.iastore, 1) := by decide +kernel
theorem dX1_init_569 : decode cX1_init 569 = .ok (.dup, 1) := by decide +kernel
theorem dX1_init_570 : decode cX1_init 570 = .ok (.bipush 93, 2) := by decide +kernel
theorem dX1_init_572 : decode cX1_init 572 = .ok (.bipush 6, 2) := by decide +kernel
theorem dX1_init_574 : decode cX1_init 574 = .ok (.iastore, 1) := by decide +kernel
theorem dX1_init_575 : decode cX1_init 575 = .ok (.dup, 1) := by decide +kernel
theorem dX1_init_576 : decode cX1_init 576 = .ok (.bipush 94, 2) := by decide +kernel
theorem dX1_init_578 : decode cX1_init 578 = .ok (.bipush 7, 2) := by decide +kernel
theorem dX1_init_580 : decode cX1_init 580 = .ok (.iastore, 1) := by decide +kernel
theorem dX1_init_581 : decode cX1_init 581 = .ok (.dup, 1) := by decide +kernel
theorem dX1_init_582 : decode cX1_init 582 = .ok (.bipush 95, 2) := by decide +kernel
theorem dX1_init_584 : decode cX1_init 584 = .ok (.iconst 1, 1) := by decide +kernel
theorem dX1_init_585 : decode cX1_init 585 = .ok (.iastore, 1) := by decide +kernel
theorem dX1_init_586 : decode cX1_init 586 = .ok (.dup, 1) := by decide +kernel
theorem dX1_init_587 : decode cX1_init 587 = .ok (.bipush 96, 2) := by decide +kernel
theorem dX1_init_589 : decode cX1_init 589 = .ok (.bipush 7, 2) := by decide +kernel
theorem dX1_init_591 : decode cX1_init 591 = .ok (.iastore, 1) := by decide +kernel
theorem dX1_init_592 : decode cX1_init 592 = .ok (.dup, 1) := by decide +kernel
theorem dX1_init_593 : decode cX1_init 593 = .ok (.bipush 97, 2) := by decide +kernel
theorem dX1_init_595 : decode cX1_init 595 = .ok (.iconst 2, 1) := by decide +kernel
theorem dX1_init_596 : decode cX1_init 596 = .ok (.iastore, 1) := by decide +kernel
theorem dX1_init_597 : decode cX1_init 597 = .ok (.dup, 1) := by decide +kernel
theorem dX1_init_598 : decode cX1_init 598 = .ok (.bipush 98, 2) := by decide +kernel
theorem dX1_init_600 : decode cX1_init 600 = .ok (.bipush 12, 2) := by decide +kernel
theorem dX1_init_602 : decode cX1_init 602 = .ok (.iastore, 1) := by decide +kernel
theorem dX1_init_603 : decode cX1_init 603 = .ok (.dup, 1) := by decide +kernel
theorem dX1_init_604 : decode cX1_init 604 = .ok (.bipush 99, 2) := by decide +kernel
theorem dX1_init_606 : decode cX1_init 606 = .ok (.iconst 5, 1) := by decide +kernel
theorem dX1_init_607 : decode cX1_init 607 = .ok (.iastore, 1) := by decide +kernel
theorem dX1_init_608 : decode cX1_init 608 = .ok (.dup, 1) := by decide +kernel
theorem dX1_init_609 : decode cX1_init 609 = .ok (.bipush 100, 2) := by decide +kernel
theorem dX1_init_611 : decode cX1_init 611 = .ok (.bipush 8, 2) := by decide +kernel
theorem dX1_init_613 : decode cX1_init 613 = .ok (.iastore, 1) := by decide +kernel
theorem dX1_init_614 : decode cX1_init 614 = .ok (.dup, 1) := by decide +kernel
theorem dX1_init_615 : decode cX1_init 615 = .ok (.bipush 101, 2) := by decide +kernel
theorem dX1_init_617 : decode cX1_init 617 = .ok (.iconst 4, 1) := by decide +kernel
theorem dX1_init_618 : decode cX1_init 618 = .ok (.iastore, 1) := by decide +kernel
theorem dX1_init_619 : decode cX1_init 619 = .ok (.dup, 1) := by decide +kernel
theorem dX1_init_620 : decode cX1_init 620 = .ok (.bipush 102, 2) := by decide +kernel
theorem dX1_init_622 : decode cX1_init 622 = .ok (.bipush 6, 2) := by decide +kernel
theorem dX1_init_624 : decode cX1_init 624 = .ok (.iastore, 1) := by decide +kernel
theorem dX1_init_625 : decode cX1_init 625 = .ok (.dup, 1) := by decide +kernel
theorem dX1_init_626 : decode cX1_init 626 = .ok (.bipush 103, 2) := by decide +kernel
theorem dX1_init_628 : decode cX1_init 628 = .ok (.bipush 11, 2) := by decide +kernel
theorem dX1_init_630 : decode cX1_init 630 = .ok (.iastore, 1) := by decide +kernel
theorem dX1_init_631 : decode cX1_init 631 = .ok (.dup, 1) := by decide +kernel
theorem dX1_init_632 : decode cX1_init 632 = .ok (.bipush 104, 2) := by decide +kernel
theorem dX1_init_634 : decode cX1_init 634 = .ok (.bipush 14, 2) := by decide +kernel
theorem dX1_init_636 : decode cX1_init 636 = .ok (.iastore, 1) := by decide +kernel
theorem dX1_init_637 : decode cX1_init 637 = .ok (.dup, 1) := by decide +kernel
theorem dX1_init_638 : decode cX1_init 638 = .ok (.bipush 105, 2) := by decide +kernel
theorem dX1_init_640 : decode cX1_init 640 = .ok (.bipush 9, 2) := by decide +kernel
theorem dX1_init_642 : decode cX1_init 642 = .ok (.iastore, 1) := by decide +kernel
theorem dX1_init_643 : decode cX1_init 643 = .ok (.dup, 1) := by decide +kernel
theorem dX1_init_644 : decode cX1_init 644 = .ok (.bipush 106, 2) := by decide +kernel
theorem dX1_init_646 : decode cX1_init 646 = .ok (.iconst 1, 1) := by decide +kernel
theorem dX1_init_647 : decode cX1_init 647 = .ok (.iastore, 1) := by decide +kernel
theorem dX1_init_648 : decode cX1_init 648 = .ok (.dup, 1) := by decide +kernel
theorem dX1_init_649 : decode cX1_init 649 = .ok (.bipush 107, 2) := by decide +kernel
theorem dX1_init_651 : decode cX1_init 651 = .ok (.bipush 15, 2) := by decide +kernel
theorem dX1_init_653 : decode cX1_init 653 = .ok (.iastore, 1) := by decide +kernel
theorem dX1_init_654 : decode cX1_init 654 = .ok (.dup, 1) := by decide +kernel
theorem dX1_init_655 : decode cX1_init 655 = .ok (.bipush 108, 2) := by decide +kernel
theorem dX1_init_657 : decode cX1_init 657 = .ok (.bipush 13, 2) := by decide +kernel
theorem dX1_init_659 : decode cX1_init 659 = .ok (.iastore, 1) := by decide +kernel
theorem dX1_init_660 : decode cX1_init 660 = .ok (.dup, 1) := by decide +kernel
theorem dX1_init_661 : decode cX1_init 661 = .ok (.bipush 109, 2) := by decide +kernel
theorem dX1_init_663 : decode cX1_init 663 = .ok (.iconst 3, 1) := by decide +kernel
theorem dX1_init_664 : decode cX1_init 664 = .ok (.iastore, 1) := by decide +kernel
theorem dX1_init_665 : decode cX1_init 665 = .ok (.dup, 1) := by decide +kernel
theorem dX1_init_666 : decode cX1_init 666 = .ok (.bipush 110, 2) := by decide +kernel
theorem dX1_init_668 : decode cX1_init 668 = .ok (.bipush 10, 2) := by decide +kernel
theorem dX1_init_670 : decode cX1_init 670 = .ok (.iastore, 1) := by decide +kernel
theorem dX1_init_671 : decode cX1_init 671 = .ok (.dup, 1) := by decide +kernel
theorem dX1_init_672 : decode cX1_init 672 = .ok (.bipush 111, 2) := by decide +kernel
theorem dX1_init_674 : decode cX1_init 674 = .ok (.iconst 0, 1) := by decide +kernel
theorem dX1_init_675 : decode cX1_init 675 = .ok (.iastore, 1) := by decide +kernel
theorem dX1_init_676 : decode cX1_init 676 = .ok (.dup, 1) := by decide +kernel
theorem dX1_init_677 : decode cX1_init 677 = .ok (.bipush 112, 2) := by decide +kernel
theorem dX1_init_679 : decode cX1_init 679 = .ok (.iconst 1, 1) := by decide +kernel
theorem dX1_init_680 : decode cX1_init 680 = .ok (.iastore, 1) := by decide +kernel
theorem dX1_init_681 : decode cX1_init 681 = .ok (.dup, 1) := by decide +kernel
theorem dX1_init_682 : decode cX1_init 682 = .ok (.bipush 113, 2) := by decide +kernel
theorem dX1_init_684 : decode cX1_init 684 = .ok (.bipush 13, 2) := by decide +kernel
theorem dX1_init_686 : decode cX1_init 686 = .ok (.iastore, 1) := by decide +kernel
theorem dX1_init_687 : decode cX1_init 687 = .ok (.dup, 1) := by decide +kernel
theorem dX1_init_688 : decode cX1_init 688 = .ok (.bipush 114, 2) := by decide +kernel
theorem dX1_init_690 : decode cX1_init 690 = .ok (.bipush 15, 2) := by decide +kernel
theorem dX1_init_692 : decode cX1_init 692 = .ok (.iastore, 1) := by decide +kernel
theorem dX1_init_693 : decode cX1_init 693 = .ok (.dup, 1) := by decide +kernel
theorem dX1_init_694 : decode cX1_init 694 = .ok (.bipush 115, 2) := by decide +kernel
theorem dX1_init_696 : decode cX1_init 696 = .ok (.iconst 0, 1) := by decide +kernel
theorem dX1_init_697 : decode cX1_init 697 = .ok (.iastore, 1) := by decide +kernel
theorem dX1_init_698 : decode cX1_init 698 = .ok (.dup, 1) := by decide +kernel
theorem dX1_init_699 : decode cX1_init 699 = .ok (.bipush 116, 2) := by decide +kernel
theorem dX1_init_701 : decode cX1_init 701 = .ok (.bipush 14, 2) := by decide +kernel
theorem dX1_init_703 : decode cX1_init 703 = .ok (.iastore, 1) := by decide +kernel
theorem dX1_init_704 : decode cX1_init 704 = .ok (.dup, 1) := by decide +kernel
theorem dX1_init_705 : decode cX1_init 705 = .ok (.bipush 117, 2) := by decide +kernel
theorem dX1_init_707 : decode cX1_init 707 = .ok (.bipush 8, 2) := by decide +kernel
theorem dX1_init_709 : decode cX1_init 709 = .ok (.iastore, 1) := by decide +kernel
theorem dX1_init_710 : decode cX1_init 710 = .ok (.dup, 1) := by decide +kernel
theorem dX1_init_711 : decode cX1_init 711 = .ok (.bipush 118, 2) := by decide +kernel
theorem dX1_init_713 : decode cX1_init 713 = .ok (.iconst 2, 1) := by decide +kernel
theorem dX1_init_714 : decode cX1_init 714 = .ok (.iastore, 1) := by decide +kernel
theorem dX1_init_715 : decode cX1_init 715 = .ok (.dup, 1) := by decide +kernel
theorem dX1_init_716 : decode cX1_init 716 = .ok (.bipush 119, 2) := by decide +kernel
theorem dX1_init_718 : decode cX1_init 718 = .ok (.bipush 11, 2) := by decide +kernel
theorem dX1_init_720 : decode cX1_init 720 = .ok (.iastore, 1) := by decide +kernel
theorem dX1_init_721 : decode cX1_init 721 = .ok (.dup, 1) := by decide +kernel
theorem dX1_init_722 : decode cX1_init 722 = .ok (.bipush 120, 2) := by decide +kernel
theorem dX1_init_724 : decode cX1_init 724 = .ok (.bipush 7, 2) := by decide +kernel
theorem dX1_init_726 : decode cX1_init 726 = .ok (.iastore, 1) := by decide +kernel
theorem dX1_init_727 : decode cX1_init 727 = .ok (.dup, 1) := by decide +kernel
theorem dX1_init_728 : decode cX1_init 728 = .ok (.bipush 121, 2) := by decide +kernel
theorem dX1_init_730 : decode cX1_init 730 = .ok (.iconst 4, 1) := by decide +kernel
theorem dX1_init_731 : decode cX1_init 731 = .ok (.iastore, 1) := by decide +kernel
theorem dX1_init_732 : decode cX1_init 732 = .ok (.dup, 1) := by decide +kernel
theorem dX1_init_733 : decode cX1_init 733 = .ok (.bipush 122, 2) := by decide +kernel
theorem dX1_init_735 : decode cX1_init 735 = .ok (.bipush 12, 2) := by decide +kernel
theorem dX1_init_737 : decode cX1_init 737 = .ok (.iastore, 1) := by decide +kernel
theorem dX1_init_738 : decode cX1_init 738 = .ok (.dup, 1) := by decide +kernel
theorem dX1_init_739 : decode cX1_init 739 = .ok (.bipush 123, 2) := by decide +kernel
theorem dX1_init_741 : decode cX1_init 741 = .ok (.bipush 10, 2) := by decide +kernel
theorem dX1_init_743 : decode cX1_init 743 = .ok (.iastore, 1) := by decide +kernel
theorem dX1_init_744 : decode cX1_init 744 = .ok (.dup, 1) := by decide +kernel
theorem dX1_init_745 : decode cX1_init 745 = .ok (.bipush 124, 2) := by decide +kernel
theorem dX1_init_747 : decode cX1_init 747 = .ok (.bipush 9, 2) := by decide +kernel
theorem dX1_init_749 : decode cX1_init 749 = .ok (.iastore, 1) := by decide +kernel
theorem dX1_init_750 : decode cX1_init 750 = .ok (.dup, 1) := by decide +kernel
theorem dX1_init_751 : decode cX1_init 751 = .ok (.bipush 125, 2) := by decide +kernel
theorem dX1_init_753 : decode cX1_init 753 = .ok (.iconst 3, 1) := by decide +kernel
theorem dX1_init_754 : decode cX1_init 754 = .ok (.iastore, 1) := by decide +kernel
theorem dX1_init_755 : decode cX1_init 755 = .ok (.dup, 1) := by decide +kernel
theorem dX1_init_756 : decode cX1_init 756 = .ok (.bipush 126, 2) := by decide +kernel
theorem dX1_init_758 : decode cX1_init 758 = .ok (.iconst 5, 1) := by decide +kernel
theorem dX1_init_759 : decode cX1_init 759 = .ok (.iastore, 1) := by decide +kernel
theorem dX1_init_760 : decode cX1_init 760 = .ok (.dup, 1) := by decide +kernel
theorem dX1_init_761 : decode cX1_init 761 = .ok (.bipush 127, 2) := by decide +kernel
theorem dX1_init_763 : decode cX1_init 763 = .ok (.bipush 6, 2) := by decide +kernel
theorem dX1_init_765 : decode cX1_init 765 = .ok (.iastore, 1) := by decide +kernel
theorem dX1_init_766 : decode cX1_init 766 = .ok (.putfield 25, 3) := by decide +kernel
theorem dX1_init_769 : decode cX1_init 769 = .ok (.aload_n 0, 1) := by decide +kernel
theorem dX1_init_770 : decode cX1_init 770 = .ok (.iconst 4, 1) := by decide +kernel
theorem dX1_init_771 : decode cX1_init 771 = .ok (.newarray .int, 2) := by decide +kernel
theorem dX1_init_773 : decode cX1_init 773 = .ok (.putfield 28, 3) := by decide +kernel
theorem dX1_init_776 : decode cX1_init 776 = .ok (.aload_n 0, 1) := by decide +kernel
theorem dX1_init_777 : decode cX1_init 777 = .ok (.iconst 4, 1) := by decide +kernel
theorem dX1_init_778 : decode cX1_init 778 = .ok (.newarray .int, 2) := by decide +kernel
theorem dX1_init_780 : decode cX1_init 780 = .ok (.putfield 31, 3) := by decide +kernel
theorem dX1_init_783 : decode cX1_init 783 = .ok (.aload_n 0, 1) := by decide +kernel
theorem dX1_init_784 : decode cX1_init 784 = .ok (.iconst 4, 1) := by decide +kernel
theorem dX1_init_785 : decode cX1_init 785 = .ok (.newarray .int, 2) := by decide +kernel
theorem dX1_init_787 : decode cX1_init 787 = .ok (.putfield 34, 3) := by decide +kernel
theorem dX1_init_790 : decode cX1_init 790 = .ok (.aload_n 0, 1) := by decide +kernel
theorem dX1_init_791 : decode cX1_init 791 = .ok (.iconst 0, 1) := by decide +kernel
theorem dX1_init_792 : decode cX1_init 792 = .ok (.putfield 37, 3) := by decide +kernel
theorem dX1_init_795 : decode cX1_init 795 = .ok (.return_, 1) := by decide +kernel
theorem dX1_thrown_0 : decode cX1_thrown 0 = .ok (.aload_n 0, 1) := by decide +kernel
theorem dX1_thrown_1 : decode cX1_thrown 1 = .ok (.getfield 41, 3) := by decide +kernel
theorem dX1_thrown_4 : decode cX1_thrown 4 = .ok (.ireturn, 1) := by decide +kernel
theorem dX1_good_0 : decode cX1_good 0 = .ok (.aload_n 0, 1) := by decide +kernel
theorem dX1_good_1 : decode cX1_good 1 = .ok (.iload_n 1, 1) := by decide +kernel
theorem dX1_good_2 : decode cX1_good 2 = .ok (.ifCond .ne 7, 3) := by decide +kernel
theorem dX1_good_5 : decode cX1_good 5 = .ok (.iconst 1, 1) := by decide +kernel
theorem dX1_good_6 : decode cX1_good 6 = .ok (.goto 12, 3) := by decide +kernel
theorem dX1_good_9 : decode cX1_good 9 = .ok (.iload_n 2, 1) := by decide +kernel
theorem dX1_good_10 : decode cX1_good 10 = .ok (.ifCond .ne 7, 3) := by decide +kernel
theorem dX1_good_13 : decode cX1_good 13 = .ok (.iconst 2, 1) := by decide +kernel
theorem dX1_good_14 : decode cX1_good 14 = .ok (.goto 4, 3) := by decide +kernel
theorem dX1_good_17 : decode cX1_good 17 = .ok (.iconst 0, 1) := by decide +kernel
theorem dX1_good_18 : decode cX1_good 18 = .ok (.putfield 41, 3) := by decide +kernel
theorem dX1_good_21 : decode cX1_good 21 = .ok (.aload_n 0, 1) := by decide +kernel
theorem dX1_good_22 : decode cX1_good 22 = .ok (.getfield 41, 3) := by decide +kernel
theorem dX1_good_25 : decode cX1_good 25 = .ok (.ifCond .ne 7, 3) := by decide +kernel
theorem dX1_good_28 : decode cX1_good 28 = .ok (.iconst 1, 1) := by decide +kernel
theorem dX1_good_29 : decode cX1_good 29 = .ok (.goto 4, 3) := by decide +kernel
theorem dX1_good_32 : decode cX1_good 32 = .ok (.iconst 0, 1) := by decide +kernel
theorem dX1_good_33 : decode cX1_good 33 = .ok (.ireturn, 1) := by decide +kernel
theorem dX1_isIn_0 : decode cX1_isIn 0 = .ok (.iload_n 0, 1) := by decide +kernel
theorem dX1_isIn_1 : decode cX1_isIn 1 = .ok (.iload_n 1, 1) := by decide +kernel
theorem dX1_isIn_2 : decode cX1_isIn 2 = .ok (.if_icmp .lt 12, 3) := by decide +kernel
theorem dX1_isIn_5 : decode cX1_isIn 5 = .ok (.iload_n 0, 1) := by decide +kernel
theorem dX1_isIn_6 : decode cX1_isIn 6 = .ok (.iload_n 2, 1) := by decide +kernel
theorem dX1_isIn_7 : decode cX1_isIn 7 = .ok (.if_icmp .gt 7, 3) := by decide +kernel
theorem dX1_isIn_10 : decode cX1_isIn 10 = .ok (.iconst 1, 1) := by decide +kernel
theorem dX1_isIn_11 : decode cX1_isIn 11 = .ok (.goto 4, 3) := by decide +kernel
theorem dX1_isIn_14 : decode cX1_isIn 14 = .ok (.iconst 0, 1) := by decide +kernel
theorem dX1_isIn_15 : decode cX1_isIn 15 = .ok (.ireturn, 1) := by decide +kernel
theorem dX1_back_0 : decode cX1_back 0 = .ok (.iconst 0, 1) := by decide +kernel
theorem dX1_back_1 : decode cX1_back 1 = .ok (.istore_n 3, 1) := by decide +kernel
theorem dX1_back_2 : decode cX1_back 2 = .ok (.aload_n 0, 1) := by decide +kernel
theorem dX1_back_3 : decode cX1_back 3 = .ok (.getfield 25, 3) := by decide +kernel
theorem dX1_back_6 : decode cX1_back 6 = .ok (.bipush 16, 2) := by decide +kernel
theorem dX1_back_8 : decode cX1_back 8 = .ok (.iload_n 1, 1) := by decide +kernel
theorem dX1_back_9 : decode cX1_back 9 = .ok (.imul, 1) := by decide +kernel
theorem dX1_back_10 : decode cX1_back 10 = .ok (.iload_n 3, 1) := by decide +kernel
theorem dX1_back_11 : decode cX1_back 11 = .ok (.iadd, 1) := by decide +kernel
theorem dX1_back_12 : decode cX1_back 12 = .ok (.iaload, 1) := by decide +kernel
theorem dX1_back_13 : decode cX1_back 13 = .ok (.iload_n 2, 1) := by decide +kernel
theorem dX1_back_14 : decode cX1_back 14 = .ok (.if_icmp .eq 9, 3) := by decide +kernel
theorem dX1_back_17 : decode cX1_back 17 = .ok (.iinc 3 1, 3) := by decide +kernel
theorem dX1_back_20 : decode cX1_back 20 = .ok (.goto (-18), 3) := by decide +kernel
theorem dX1_back_23 : decode cX1_back 23 = .ok (.iload_n 3, 1) := by decide +kernel
