theorem dX8_init_0 : decode cX8_init 0 = .ok (.aload_n 0, 1) := by decide +kernel
theorem dX8_init_1 : decode cX8_init 1 = .ok (.invokespecial 1, 3) := by decide +kernel
theorem dX8_init_4 : decode cX8_init 4 = .ok (.aload_n 0, 1) := by decide +kernel
theorem dX8_init_5 : decode cX8_init 5 = .ok (.iconst (-1), 1) := by decide +kernel
theorem dX8_init_6 : decode cX8_init 6 = .ok (.putfield 7, 3) := by decide +kernel
theorem dX8_init_9 : decode cX8_init 9 = .ok (.aload_n 0, 1) := by decide +kernel
theorem dX8_init_10 : decode cX8_init 10 = .ok (.bipush 79, 2) := by decide +kernel
theorem dX8_init_12 : decode cX8_init 12 = .ok (.newarray .int, 2) := by decide +kernel
theorem dX8_init_14 : decode cX8_init 14 = .ok (.putfield 13, 3) := by decide +kernel
theorem dX8_init_17 : decode cX8_init 17 = .ok (.aload_n 0, 1) := by decide +kernel
theorem dX8_init_18 : decode cX8_init 18 = .ok (.bipush 79, 2) := by decide +kernel
theorem dX8_init_20 : decode cX8_init 20 = .ok (.newarray .int, 2) := by decide +kernel
theorem dX8_init_22 : decode cX8_init 22 = .ok (.putfield 17, 3) := by decide +kernel
theorem dX8_init_25 : decode cX8_init 25 = .ok (.aload_n 0, 1) := by decide +kernel
theorem dX8_init_26 : decode cX8_init 26 = .ok (.bipush 79, 2) := by decide +kernel
theorem dX8_init_28 : decode cX8_init 28 = .ok (.newarray .int, 2) := by decide +kernel
theorem dX8_init_30 : decode cX8_init 30 = .ok (.putfield 20, 3) := by decide +kernel
theorem dX8_init_33 : decode cX8_init 33 = .ok (.aload_n 0, 1) := by decide +kernel
theorem dX8_init_34 : decode cX8_init 34 = .ok (.bipush 79, 2) := by decide +kernel
theorem dX8_init_36 : decode cX8_init 36 = .ok (.newarray .int, 2) := by decide +kernel
theorem dX8_init_38 : decode cX8_init 38 = .ok (.putfield 23, 3) := by decide +kernel
theorem dX8_init_41 : decode cX8_init 41 = .ok (.aload_n 0, 1) := by decide +kernel
theorem dX8_init_42 : decode cX8_init 42 = .ok (.sipush 632, 3) := by decide +kernel
theorem dX8_init_45 : decode cX8_init 45 = .ok (.newarray .int, 2) := by decide +kernel
theorem dX8_init_47 : decode cX8_init 47 = .ok (.putfield 26, 3) := by decide +kernel
theorem dX8_init_50 : decode cX8_init 50 = .ok (.aload_n 0, 1) := by decide +kernel
theorem dX8_init_51 : decode cX8_init 51 = .ok (.bipush 12, 2) := by decide +kernel
theorem dX8_init_53 : decode cX8_init 53 = .ok (.newarray .int, 2) := by decide +kernel
theorem dX8_init_55 : decode cX8_init 55 = .ok (.dup, 1) := by decide +kernel
theorem dX8_init_56 : decode cX8_init 56 = .ok (.iconst 0, 1) := by decide +kernel
theorem dX8_init_57 : decode cX8_init 57 = .ok (.iconst 1, 1) := by decide +kernel
theorem dX8_init_58 : decode cX8_init 58 = .ok (.iastore, 1) := by decide +kernel
theorem dX8_init_59 : decode cX8_init 59 = .ok (.dup, 1) := by decide +kernel
theorem dX8_init_60 : decode cX8_init 60 = .ok (.iconst 1, 1) := by decide +kernel
theorem dX8_init_61 : decode cX8_init 61 = .ok (.iconst 1, 1) := by decide +kernel
theorem dX8_init_62 : decode cX8_init 62 = .ok (.iastore, 1) := by decide +kernel
theorem dX8_init_63 : decode cX8_init 63 = .ok (.dup, 1) := by decide +kernel
theorem dX8_init_64 : decode cX8_init 64 = .ok (.iconst 2, 1) := by decide +kernel
theorem dX8_init_65 : decode cX8_init 65 = .ok (.iconst 2, 1) := by decide +kernel
theorem dX8_init_66 : decode cX8_init 66 = .ok (.iastore, 1) := by decide +kernel
theorem dX8_init_67 : decode cX8_init 67 = .ok (.dup, 1) := by decide +kernel
theorem dX8_init_68 : decode cX8_init 68 = .ok (.iconst 3, 1) := by decide +kernel
theorem dX8_init_69 : decode cX8_init 69 = .ok (.iconst 3, 1) := by decide +kernel
theorem dX8_init_70 : decode cX8_init 70 = .ok (.iastore, 1) := by decide +kernel
theorem dX8_init_71 : decode cX8_init 71 = .ok (.dup, 1) := by decide +kernel
theorem dX8_init_72 : decode cX8_init 72 = .ok (.iconst 4, 1) := by decide +kernel
theorem dX8_init_73 : decode cX8_init 73 = .ok (.iconst 4, 1) := by decide +kernel
theorem dX8_init_74 : decode cX8_init 74 = .ok (.iastore, 1) := by decide +kernel
theorem dX8_init_75 : decode cX8_init 75 = .ok (.dup, 1) := by decide +kernel
theorem dX8_init_76 : decode cX8_init 76 = .ok (.iconst 5, 1) := by decide +kernel
theorem dX8_init_77 : decode cX8_init 77 = .ok (.iconst 5, 1) := by decide +kernel
theorem dX8_init_78 : decode cX8_init 78 = .ok (.iastore, 1) := by decide +kernel
theorem dX8_init_79 : decode cX8_init 79 = .ok (.dup, 1) := by decide +kernel
theorem dX8_init_80 : decode cX8_init 80 = .ok (.bipush 6, 2) := by decide +kernel
theorem dX8_init_82 : decode cX8_init 82 = .ok (.iconst 5, 1) := by decide +kernel
theorem dX8_init_83 : decode cX8_init 83 = .ok (.iastore, 1) := by decide +kernel
theorem dX8_init_84 : decode cX8_init 84 = .ok (.dup, 1) := by decide +kernel
theorem dX8_init_85 : decode cX8_init 85 = .ok (.bipush 7, 2) := by decide +kernel
theorem dX8_init_87 : decode cX8_init 87 = .ok (.iconst 4, 1) := by decide +kernel
theorem dX8_init_88 : decode cX8_init 88 = .ok (.iastore, 1) := by decide +kernel
theorem dX8_init_89 : decode cX8_init 89 = .ok (.dup, 1) := by decide +kernel
theorem dX8_init_90 : decode cX8_init 90 = .ok (.bipush 8, 2) := by decide +kernel
theorem dX8_init_92 : decode cX8_init 92 = .ok (.iconst 3, 1) := by decide +kernel
theorem dX8_init_93 : decode cX8_init 93 = .ok (.iastore, 1) := by decide +kernel
theorem dX8_init_94 : decode cX8_init 94 = .ok (.dup, 1) := by decide +kernel
theorem dX8_init_95 : decode cX8_init 95 = .ok (.bipush 9, 2) := by decide +kernel
theorem dX8_init_97 : decode cX8_init 97 = .ok (.iconst 2, 1) := by decide +kernel
theorem dX8_init_98 : decode cX8_init 98 = .ok (.iastore, 1) := by decide +kernel
theorem dX8_init_99 : decode cX8_init 99 = .ok (.dup, 1) := by decide +kernel
theorem dX8_init_100 : decode cX8_init 100 = .ok (.bipush 10, 2) := by decide +kernel
theorem dX8_init_102 : decode cX8_init 102 = .ok (.iconst 1, 1) := by decide +kernel
theorem dX8_init_103 : decode cX8_init 103 = .ok (.iastore, 1) := by decide +kernel
theorem dX8_init_104 : decode cX8_init 104 = .ok (.dup, 1) := by decide +kernel
theorem dX8_init_105 : decode cX8_init 105 = .ok (.bipush 11, 2) := by decide +kernel
theorem dX8_init_107 : decode cX8_init 107 = .ok (.iconst 1, 1) := by decide +kernel
theorem dX8_init_108 : decode cX8_init 108 = .ok (.iastore, 1) := by decide +kernel
theorem dX8_init_109 : decode cX8_init 109 = .ok (.putfield 29, 3) := by decide +kernel
theorem dX8_init_112 : decode cX8_init 112 = .ok (.aload_n 0, 1) := by decide +kernel
theorem dX8_init_113 : decode cX8_init 113 = .ok (.iconst 5, 1) := by decide +kernel
theorem dX8_init_114 : decode cX8_init 114 = .ok (.newarray .int, 2) := by decide +kernel
theorem dX8_init_116 : decode cX8_init 116 = .ok (.putfield 32, 3) := by decide +kernel
theorem dX8_init_119 : decode cX8_init 119 = .ok (.aload_n 0, 1) := by decide +kernel
theorem dX8_init_120 : decode cX8_init 120 = .ok (.bipush 60, 2) := by decide +kernel
theorem dX8_init_122 : decode cX8_init 122 = .ok (.newarray .int, 2) := by decide +kernel
theorem dX8_init_124 : decode cX8_init 124 = .ok (.putfield 35, 3) := by decide +kernel
theorem dX8_init_127 : decode cX8_init 127 = .ok (.aload_n 0, 1) := by decide +kernel
theorem dX8_init_128 : decode cX8_init 128 = .ok (.sipush 140, 3) := by decide +kernel
theorem dX8_init_131 : decode cX8_init 131 = .ok (.newarray .int, 2) := by decide +kernel
theorem dX8_init_133 : decode cX8_init 133 = .ok (.putfield 38, 3) := by decide +kernel
theorem dX8_init_136 : decode cX8_init 136 = .ok (.aload_n 0, 1) := by decide +kernel
theorem dX8_init_137 : decode cX8_init 137 = .ok (.bipush 8, 2) := by decide +kernel
theorem dX8_init_139 : decode cX8_init 139 = .ok (.newarray .int, 2) := by decide +kernel
theorem dX8_init_141 : decode cX8_init 141 = .ok (.putfield 41, 3) := by decide +kernel
theorem dX8_init_144 : decode cX8_init 144 = .ok (.aload_n 0, 1) := by decide +kernel
theorem dX8_init_145 : decode cX8_init 145 = .ok (.bipush 43, 2) := by decide +kernel
theorem dX8_init_147 : decode cX8_init 147 = .ok (.newarray .int, 2) := by decide +kernel
theorem dX8_init_149 : decode cX8_init 149 = .ok (.dup, 1) := by decide +kernel
theorem dX8_init_150 : decode cX8_init 150 = .ok (.iconst 0, 1) := by decide +kernel
theorem dX8_init_151 : decode cX8_init 151 = .ok (.bipush 116, 2) := by decide +kernel
theorem dX8_init_153 : decode cX8_init 153 = .ok (.iastore, 1) := by decide +kernel
theorem dX8_init_154 : decode cX8_init 154 = .ok (.dup, 1) := by decide +kernel
theorem dX8_init_155 : decode cX8_init 155 = .ok (.iconst 1, 1) := by decide +kernel
theorem dX8_init_156 : decode cX8_init 156 = .ok (.bipush 114, 2) := by decide +kernel
theorem dX8_init_158 : decode cX8_init 158 = .ok (.iastore, 1) := by decide +kernel
theorem dX8_init_159 : decode cX8_init 159 = .ok (.dup, 1) := by decide +kernel
theorem dX8_init_160 : decode cX8_init 160 = .ok (.iconst 2, 1) := by decide +kernel
theorem dX8_init_161 : decode cX8_init 161 = .ok (.bipush 101, 2) := by decide +kernel
theorem dX8_init_163 : decode cX8_init 163 = .ok (.iastore, 1) := by decide +kernel
theorem dX8_init_164 : decode cX8_init 164 = .ok (.dup, 1) := by decide +kernel
theorem dX8_init_165 : decode cX8_init 165 = .ok (.iconst 3, 1) := by decide +kernel
theorem dX8_init_166 : decode cX8_init 166 = .ok (.bipush 97, 2) := by decide +kernel
theorem dX8_init_168 : decode cX8_init 168 = .ok (.iastore, 1) := by decide +kernel
theorem dX8_init_169 : decode cX8_init 169 = .ok (.dup, 1) := by decide +kernel
theorem dX8_init_170 : decode cX8_init 170 = .ok (.iconst 4, 1) := by decide +kernel
theorem dX8_init_171 : decode cX8_init 171 = .ok (.bipush 116, 2) := by decide +kernel
theorem dX8_init_173 : decode cX8_init 173 = .ok (.iastore, 1) := by decide +kernel
theorem dX8_init_174 : decode cX8_init 174 = .ok (.dup, 1) := by decide +kernel
theorem dX8_init_175 : decode cX8_init 175 = .ok (.iconst 5, 1) := by decide +kernel
theorem dX8_init_176 : decode cX8_init 176 = .ok (.bipush 121, 2) := by decide +kernel
theorem dX8_init_178 : decode cX8_init 178 = .ok (.iastore, 1) := by decide +kernel
theorem dX8_init_179 : decode cX8_init 179 = .ok (.dup, 1) := by decide +kernel
theorem dX8_init_180 : decode cX8_init 180 = .ok (.bipush 6, 2) := by decide +kernel
theorem dX8_init_182 : decode cX8_init 182 = .ok (.bipush 32, 2) := by decide +kernel
theorem dX8_init_184 : decode cX8_init 184 = .ok (.iastore, 1) := by decide +kernel
theorem dX8_init_185 : decode cX8_init 185 = .ok (.dup, 1) := by decide +kernel
theorem dX8_init_186 : decode cX8_init 186 = .ok (.bipush 7, 2) := by decide +kernel
theorem dX8_init_188 : decode cX8_init 188 = .ok (.bipush 101, 2) := by decide +kernel
theorem dX8_init_190 : decode cX8_init 190 = .ok (.iastore, 1) := by decide +kernel
theorem dX8_init_191 : decode cX8_init 191 = .ok (.dup, 1) := by decide +kernel
theorem dX8_init_192 : decode cX8_init 192 = .ok (.bipush 8, 2) := by decide +kernel
theorem dX8_init_194 : decode cX8_init 194 = .ok (.bipush 110, 2) := by decide +kernel
theorem dX8_init_196 : decode cX8_init 196 = .ok (.iastore, 1) := by decide +kernel
theorem dX8_init_197 : decode cX8_init 197 = .ok (.dup, 1) := by decide +kernel
theorem dX8_init_198 : decode cX8_init 198 = .ok (.bipush 9, 2) := by decide +kernel
theorem dX8_init_200 : decode cX8_init 200 = .ok (.bipush 100, 2) := by decide +kernel
theorem dX8_init_202 : decode cX8_init 202 = .ok (.iastore, 1) := by decide +kernel
theorem dX8_init_203 : decode cX8_init 203 = .ok (.dup, 1) := by decide +kernel
theorem dX8_init_204 : decode cX8_init 204 = .ok (.bipush 10, 2) := by decide +kernel
theorem dX8_init_206 : decode cX8_init 206 = .ok (.bipush 32, 2) := by decide +kernel
theorem dX8_init_208 : decode cX8_init 208 = .ok (.iastore, 1) := by decide +kernel
theorem dX8_init_209 : decode cX8_init 209 = .ok (.dup, 1) := by decide +kernel
theorem dX8_init_210 : decode cX8_init 210 = .ok (.bipush 11, 2) := by decide +kernel
theorem dX8_init_212 : decode cX8_init 212 = .ok (.bipush 99, 2) := by decide +kernel
theorem dX8_init_214 : decode cX8_init 214 = .ok (.iastore, 1) := by decide +kernel
theorem dX8_init_215 : decode cX8_init 215 = .ok (.dup, 1) := by decide +kernel
theorem dX8_init_216 : decode cX8_init 216 = .ok (.bipush 12, 2) := by decide +kernel
theorem dX8_init_218 : decode cX8_init 218 = .ok (.bipush 114, 2) := by decide +kernel
theorem dX8_init_220 : decode cX8_init 220 = .ok (.iastore, 1) := by decide +kernel
theorem dX8_init_221 : decode cX8_init 221 = .ok (.dup, 1) := by decide +kernel
theorem dX8_init_222 : decode cX8_init 222 = .ok (.bipush 13, 2) := by decide +kernel
theorem dX8_init_224 : decode cX8_init 224 = .ok (.bipush 101, 2) := by decide +kernel
theorem dX8_init_226 : decode cX8_init 226 = .ok (.iastore, 1) := by decide +kernel
theorem dX8_init_227 : decode cX8_init 227 = .ok (.dup, 1) := by decide +kernel
theorem dX8_init_228 : decode cX8_init 228 = .ok (.bipush 14, 2) := by decide +kernel
theorem dX8_init_230 : decode cX8_init 230 = .ok (.bipush 100, 2) := by decide +kernel
theorem dX8_init_232 : decode cX8_init 232 = .ok (.iastore, 1) := by decide +kernel
theorem dX8_init_233 : decode cX8_init 233 = .ok (.dup, 1) := by decide +kernel
theorem dX8_init_234 : decode cX8_init 234 = .ok (.bipush 15, 2) := by decide +kernel
theorem dX8_init_236 : decode cX8_init 236 = .ok (.bipush 105, 2) := by decide +kernel
theorem dX8_init_238 : decode cX8_init 238 = .ok (.iastore, 1) := by decide +kernel
theorem dX8_init_239 : decode cX8_init 239 = .ok (.dup, 1) := by decide +kernel
theorem dX8_init_240 : decode cX8_init 240 = .ok (.bipush 16, 2) := by decide +kernel
theorem dX8_init_242 : decode cX8_init 242 = .ok (.bipush 116, 2) := by decide +kernel
theorem dX8_init_244 : decode cX8_init 244 = .ok (.iastore, 1) := by decide +kernel
theorem dX8_init_245 : decode cX8_init 245 = .ok (.dup, 1) := by decide +kernel
theorem dX8_init_246 : decode cX8_init 246 = .ok (.bipush 17, 2) := by decide +kernel
theorem dX8_init_248 : decode cX8_init 248 = .ok (.bipush 32, 2) := by decide +kernel
theorem dX8_init_250 : decode cX8_init 250 = .ok (.iastore, 1) := by decide +kernel
theorem dX8_init_251 : decode cX8_init 251 = .ok (.dup, 1) := by decide +kernel
theorem dX8_init_252 : decode cX8_init 252 = .ok (.bipush 18, 2) := by decide +kernel
theorem dX8_init_254 : decode cX8_init 254 = .ok (.bipush 114, 2) := by decide +kernel
theorem dX8_init_256 : decode cX8_init 256 = .ok (.iastore, 1) := by decide +kernel
theorem dX8_init_257 : decode cX8_init 257 = .ok (.dup, 1) := by decide +kernel
theorem dX8_init_258 : decode cX8_init 258 = .ok (.bipush 19, 2) := by decide +kernel
theorem dX8_init_260 : decode cX8_init 260 = .ok (.bipush 101, 2) := by decide +kernel
theorem dX8_init_262 : decode cX8_init 262 = .ok (.iastore, 1) := by decide +kernel
theorem dX8_init_263 : decode cX8_init 263 = .ok (.dup, 1) := by decide +kernel
theorem dX8_init_264 : decode cX8_init 264 = .ok (.bipush 20, 2) := by decide +kernel
theorem dX8_init_266 : decode cX8_init 266 = .ok (.bipush 112, 2) := by decide +kernel
theorem dX8_init_268 : decode cX8_init 268 = .ok (.iastore, 1) := by decide +kernel
theorem dX8_init_269 : decode cX8_init 269 = .ok (.dup, 1) := by decide +kernel
theorem dX8_init_270 : decode cX8_init 270 = .ok (.bipush 21, 2) := by decide +kernel
theorem dX8_init_272 : decode cX8_init 272 = .ok (.bipush 97, 2) := by decide +kernel
theorem dX8_init_274 : decode cX8_init 274 = .ok (.iastore, 1) := by decide +kernel
theorem dX8_init_275 : decode cX8_init 275 = .ok (.dup, 1) := by decide +kernel
theorem dX8_init_276 : decode cX8_init 276 = .ok (.bipush 22, 2) := by decide +kernel
theorem dX8_init_278 : decode cX8_init 278 = .ok (.bipush 121, 2) := by decide +kernel
theorem dX8_init_280 : decode cX8_init 280 = .ok (.iastore, 1) := by decide +kernel
theorem dX8_init_281 : decode cX8_init 281 = .ok (.dup, 1) := by decide +kernel
theorem dX8_init_282 : decode cX8_init 282 = .ok (.bipush 23, 2) := by decide +kernel
theorem dX8_init_284 : decode cX8_init 284 = .ok (.bipush 32, 2) := by decide +kernel
theorem dX8_init_286 : decode cX8_init 286 = .ok (.iastore, 1) := by decide +kernel
theorem dX8_init_287 : decode cX8_init 287 = .ok (.dup, 1) := by decide +kernel
theorem dX8_init_288 : decode cX8_init 288 = .ok (.bipush 24, 2) := by decide +kernel
theorem dX8_init_290 : decode cX8_init 290 = .ok (.bipush 114, 2) := by decide +kernel
theorem dX8_init_292 : decode cX8_init 292 = .ok (.iastore, 1) := by decide +kernel
theorem dX8_init_293 : decode cX8_init 293 = .ok (.dup, 1) := by decide +kernel
theorem dX8_init_294 : decode cX8_init 294 = .ok (.bipush 25, 2) := by decide +kernel
theorem dX8_init_296 : decode cX8_init 296 = .ok (.bipush 97, 2) := by decide +kernel
theorem dX8_init_298 : decode cX8_init 298 = .ok (.iastore, 1) := by decide +kernel
theorem dX8_init_299 : decode cX8_init 299 = .ok (.dup, 1) := by decide +kernel
theorem dX8_init_300 : decode cX8_init 300 = .ok (.bipush 26, 2) := by decide +kernel
theorem dX8_init_302 : decode cX8_init 302 = .ok (.bipush 105, 2) := by decide +kernel
theorem dX8_init_304 : decode cX8_init 304 = .ok (.iastore, 1) := by decide +kernel
theorem dX8_init_305 : decode cX8_init 305 = .ok (.dup, 1) := by decide +kernel
theorem dX8_init_306 : decode cX8_init 306 = .ok (.bipush 27, 2) := by decide +kernel
theorem dX8_init_308 : decode cX8_init 308 = .ok (.bipush 110, 2) := by decide +kernel
theorem dX8_init_310 : decode cX8_init 310 = .ok (.iastore, 1) := by decide +kernel
theorem dX8_init_311 : decode cX8_init 311 = .ok (.dup, 1) := by decide +kernel
theorem dX8_init_312 : decode cX8_init 312 = .ok (.bipush 28, 2) := by decide +kernel
theorem dX8_init_314 : decode cX8_init 314 = .ok (.bipush 32, 2) := by decide +kernel
theorem dX8_init_316 : decode cX8_init 316 = .ok (.iastore, 1) := by decide +kernel
theorem dX8_init_317 : decode cX8_init 317 = .ok (.dup, 1) := by decide +kernel
theorem dX8_init_318 : decode cX8_init 318 = .ok (.bipush 29, 2) := by decide +kernel
theorem dX8_init_320 : decode cX8_init 320 = .ok (.bipush 98, 2) := by decide +kernel
theorem dX8_init_322 : decode cX8_init 322 = .ok (.iastore, 1) := by decide +kernel
theorem dX8_init_323 : decode cX8_init 323 = .ok (.dup, 1) := by decide +kernel
theorem dX8_init_324 : decode cX8_init 324 = .ok (.bipush 30, 2) := by decide +kernel
theorem dX8_init_326 : decode cX8_init 326 = .ok (.bipush 97, 2) := by decide +kernel
theorem dX8_init_328 : decode cX8_init 328 = .ok (.iastore, 1) := by decide +kernel
theorem dX8_init_329 : decode cX8_init 329 = .ok (.dup, 1) := by decide +kernel
theorem dX8_init_330 : decode cX8_init 330 = .ok (.bipush 31, 2) := by decide +kernel
theorem dX8_init_332 : decode cX8_init 332 = .ok (.bipush 105, 2) := by decide +kernel
theorem dX8_init_334 : decode cX8_init 334 = .ok (.iastore, 1) := by decide +kernel
theorem dX8_init_335 : decode cX8_init 335 = .ok (.dup, 1) := by decide +kernel
theorem dX8_init_336 : decode cX8_init 336 = .ok (.bipush 32, 2) := by decide +kernel
theorem dX8_init_338 : decode cX8_init 338 = .ok (.bipush 108, 2) := by decide +kernel
theorem dX8_init_340 : decode cX8_init 340 = .ok (.iastore, 1) := by decide +kernel
theorem dX8_init_341 : decode cX8_init 341 = .ok (.dup, 1) := by decide +kernel
theorem dX8_init_342 : decode cX8_init 342 = .ok (.bipush 33, 2) := by decide +kernel
theorem dX8_init_344 : decode cX8_init 344 = .ok (.bipush 32, 2) := by decide +kernel
theorem dX8_init_346 : decode cX8_init 346 = .ok (.iastore, 1) := by decide +kernel
theorem dX8_init_347 : decode cX8_init 347 = .ok (.dup, 1) := by decide +kernel
theorem dX8_init_348 : decode cX8_init 348 = .ok (.bipush 34, 2) := by decide +kernel
theorem dX8_init_350 : decode cX8_init 350 = .ok (.bipush 98, 2) := by decide +kernel
theorem dX8_init_352 : decode cX8_init 352 = .ok (.iastore, 1) := by decide +kernel
theorem dX8_init_353 : decode cX8_init 353 = .ok (.dup, 1) := by decide +kernel
theorem dX8_init_354 : decode cX8_init 354 = .ok (.bipush 35, 2) := by decide +kernel
theorem dX8_init_356 : decode cX8_init 356 = .ok (.bipush 117, 2) := by decide +kernel
theorem dX8_init_358 : decode cX8_init 358 = .ok (.iastore, 1) := by decide +kernel
theorem dX8_init_359 : decode cX8_init 359 = .ok (.dup, 1) := by decide +kernel
theorem dX8_init_360 : decode cX8_init 360 = .ok (.bipush 36, 2) := by decide +kernel
theorem dX8_init_362 : decode cX8_init 362 = .ok (.bipush 121, 2) := by decide +kernel
theorem dX8_init_364 : decode cX8_init 364 = .ok (.iastore, 1) := by decide +kernel
theorem dX8_init_365 : decode cX8_init 365 = .ok (.dup, 1) := by decide +kernel
theorem dX8_init_366 : decode cX8_init 366 = .ok (.bipush 37, 2) := by decide +kernel
theorem dX8_init_368 : decode cX8_init 368 = .ok (.bipush 32, 2) := by decide +kernel
theorem dX8_init_370 : decode cX8_init 370 = .ok (.iastore, 1) := by decide +kernel
theorem dX8_init_371 : decode cX8_init 371 = .ok (.dup, 1) := by decide +kernel
theorem dX8_init_372 : decode cX8_init 372 = .ok (.bipush 38, 2) := by decide +kernel
theorem dX8_init_374 : decode cX8_init 374 = .ok (.bipush 109, 2) := by decide +kernel
theorem dX8_init_376 : decode cX8_init 376 = .ok (.iastore, 1) := by decide +kernel
theorem dX8_init_377 : decode cX8_init 377 = .ok (.dup, 1) := by decide +kernel
theorem dX8_init_378 : decode cX8_init 378 = .ok (.bipush 39, 2) := by decide +kernel
theorem dX8_init_380 : decode cX8_init 380 = .ok (.bipush 111, 2) := by decide +kernel
theorem dX8_init_382 : decode cX8_init 382 = .ok (.iastore, 1) := by decide +kernel
theorem dX8_init_383 : decode cX8_init 383 = .ok (.dup, 1) := by decide +kernel
theorem dX8_init_384 : decode cX8_init 384 = .ok (.bipush 40, 2) := by decide +kernel
theorem dX8_init_386 : decode cX8_init 386 = .ok (.bipush 110, 2) := by decide +kernel
theorem dX8_init_388 : decode cX8_init 388 = .ok (.iastore, 1) := by decide +kernel
theorem dX8_init_389 : decode cX8_init 389 = .ok (.dup, 1) := by decide +kernel
theorem dX8_init_390 : decode cX8_init 390 = .ok (.bipush 41, 2) := by decide +kernel
theorem dX8_init_392 : decode cX8_init 392 = .ok (.bipush 116, 2) := by decide +kernel
theorem dX8_init_394 : decode cX8_init 394 = .ok (.iastore, 1) := by decide +kernel
theorem dX8_init_395 : decode cX8_init 395 = .ok (.dup, 1) := by decide +kernel
theorem dX8_init_396 : decode cX8_init 396 = .ok (.bipush 42, 2) := by decide +kernel
theorem dX8_init_398 : decode cX8_init 398 = .ok (.bipush 104, 2) := by decide +kernel
theorem dX8_init_400 : decode cX8_init 400 = .ok (.iastore, 1) := by decide +kernel
theorem dX8_init_401 : decode cX8_init 401 = .ok (.putfield 44, 3) := by decide +kernel
theorem dX8_init_404 : decode cX8_init 404 = .ok (.aload_n 0, 1) := by decide +kernel
theorem dX8_init_405 : decode cX8_init 405 = .ok (.bipush 9, 2) := by decide +kernel
theorem dX8_init_407 : decode cX8_init 407 = .ok (.newarray .int, 2) := by decide +kernel
theorem dX8_init_409 : decode cX8_init 409 = .ok (.dup, 1) := by decide +kernel
theorem dX8_init_410 : decode cX8_init 410 = .ok (.iconst 0, 1) := by decide +kernel
theorem dX8_init_411 : decode cX8_init 411 = .ok (.iconst 0, 1) := by decide +kernel
theorem dX8_init_412 : decode cX8_init 412 = .ok (.iastore, 1) := by decide +kernel
theorem dX8_init_413 : decode cX8_init 413 = .ok (.dup, 1) := by decide +kernel
theorem dX8_init_414 : decode cX8_init 414 = .ok (.iconst 1, 1) := by decide +kernel
theorem dX8_init_415 : decode cX8_init 415 = .ok (.bipush 7, 2) := by decide +kernel
theorem dX8_init_417 : decode cX8_init 417 = .ok (.iastore, 1) := by decide +kernel
theorem dX8_init_418 : decode cX8_init 418 = .ok (.dup, 1) := by decide +kernel
theorem dX8_init_419 : decode cX8_init 419 = .ok (.iconst 2, 1) := by decide +kernel
theorem dX8_init_420 : decode cX8_init 420 = .ok (.bipush 11, 2) := by decide +kernel
theorem dX8_init_422 : decode cX8_init 422 = .ok (.iastore, 1) := by decide +kernel
theorem dX8_init_423 : decode cX8_init 423 = .ok (.dup, 1) := by decide +kernel
theorem dX8_init_424 : decode cX8_init 424 = .ok (.iconst 3, 1) := by decide +kernel
theorem dX8_init_425 : decode cX8_init 425 = .ok (.bipush 18, 2) := by decide +kernel
theorem dX8_init_427 : decode cX8_init 427 = .ok (.iastore, 1) := by decide +kernel
theorem dX8_init_428 : decode cX8_init 428 = .ok (.dup, 1) := by decide +kernel
theorem dX8_init_429 : decode cX8_init 429 = .ok (.iconst 4, 1) := by decide +kernel
theorem dX8_init_430 : decode cX8_init 430 = .ok (.bipush 24, 2) := by decide +kernel
theorem dX8_init_432 : decode cX8_init 432 = .ok (.iastore, 1) := by decide +kernel
theorem dX8_init_433 : decode cX8_init 433 = .ok (.dup, 1) := by decide +kernel
theorem dX8_init_434 : decode cX8_init 434 = .ok (.iconst 5, 1) := by decide +kernel
theorem dX8_init_435 : decode cX8_init 435 = .ok (.bipush 29, 2) := by decide +kernel
theorem dX8_init_437 : decode cX8_init 437 = .ok (.iastore, 1) := by decide +kernel
theorem dX8_init_438 : decode cX8_init 438 = .ok (.dup, 1) := by decide +kernel
theorem dX8_init_439 : decode cX8_init 439 = .ok (.bipush 6, 2) := by decide +kernel
theorem dX8_init_441 : decode cX8_init 441 = .ok (.bipush 34, 2) := by decide +kernel
theorem dX8_init_443 : decode cX8_init 443 = .ok (.iastore, 1) := by decide +kernel
theorem dX8_init_444 : decode cX8_init 444 = .ok (.dup, 1) := by decide +kernel
theorem dX8_init_445 : decode cX8_init 445 = .ok (.bipush 7, 2) := by decide +kernel
theorem dX8_init_447 : decode cX8_init 447 = .ok (.bipush 38, 2) := by decide +kernel
theorem dX8_init_449 : decode cX8_init 449 = .ok (.iastore, 1) := by decide +kernel
theorem dX8_init_450 : decode cX8_init 450 = .ok (.dup, 1) := by decide +kernel
theorem dX8_init_451 : decode cX8_init 451 = .ok (.bipush 8, 2) := by decide +kernel
theorem dX8_init_453 : decode cX8_init 453 = .ok (.bipush 43, 2) := by decide +kernel
theorem dX8_init_455 : decode cX8_init 455 = .ok (.iastore, 1) := by decide +kernel
theorem dX8_init_456 : decode cX8_init 456 = .ok (.putfield 47, 3) := by decide +kernel
theorem dX8_init_459 : decode cX8_init 459 = .ok (.iconst 0, 1) := by decide +kernel
theorem dX8_init_460 : decode cX8_init 460 = .ok (.istore_n 1, 1) := by decide +kernel
theorem dX8_init_461 : decode cX8_init 461 = .ok (.iload_n 1, 1) := by decide +kernel
theorem dX8_init_462 : decode cX8_init 462 = .ok (.iconst 5, 1) := by decide +kernel
theorem dX8_init_463 : decode cX8_init 463 = .ok (.if_icmp .ge 32, 3) := by decide +kernel
theorem dX8_init_466 : decode cX8_init 466 = .ok (.aload_n 0, 1) := by decide +kernel
theorem dX8_init_467 : decode cX8_init 467 = .ok (.getfield 13, 3) := by decide +kernel
theorem dX8_init_470 : decode cX8_init 470 = .ok (.iload_n 1, 1) := by decide +kernel
theorem dX8_init_471 : decode cX8_init 471 = .ok (.iconst 0, 1) := by decide +kernel
theorem dX8_init_472 : decode cX8_init 472 = .ok (.invokestatic 50, 3) := by decide +kernel
theorem dX8_init_475 : decode cX8_init 475 = .ok (.bipush 10, 2) := by decide +kernel
theorem dX8_init_477 : decode cX8_init 477 = .ok (.iastore, 1) := by decide +kernel
theorem dX8_init_478 : decode cX8_init 478 = .ok (.aload_n 0, 1) := by decide +kernel
theorem dX8_init_479 : decode cX8_init 479 = .ok (.getfield 13, 3) := by decide +kernel
theorem dX8_init_482 : decode cX8_init 482 = .ok (.iload_n 1, 1) := by decide +kernel
theorem dX8_init_483 : decode cX8_init 483 = .ok (.iconst 2, 1) := by decide +kernel
theorem dX8_init_484 : decode cX8_init 484 = .ok (.invokestatic 50, 3) := by decide +kernel
theorem dX8_init_487 : decode cX8_init 487 = .ok (.iconst 2, 1) := by decide +kernel
theorem dX8_init_488 : decode cX8_init 488 = .ok (.iastore, 1) := by decide +kernel
theorem dX8_init_489 : decode cX8_init 489 = .ok (.iinc 1 1, 3) := by decide +kernel
theorem dX8_init_492 : decode cX8_init 492 = .ok (.goto (-31), 3) := by decide +kernel
theorem dX8_init_495 : decode cX8_init 495 = .ok (.return_, 1) := by decide +kernel
theorem dX8_fail_0 : decode cX8_fail 0 = .ok (.aload_n 0, 1) := by decide +kernel
theorem dX8_fail_1 : decode cX8_fail 1 = .ok (.iload_n 1, 1) := by decide +kernel
theorem dX8_fail_2 : decode cX8_fail 2 = .ok (.putfield 54, 3) := by decide +kernel
theorem dX8_fail_5 : decode cX8_fail 5 = .ok (.iload_n 1, 1) := by decide +kernel
theorem dX8_fail_6 : decode cX8_fail 6 = .ok (.ireturn, 1) := by decide +kernel
set_option maxRecDepth 20000 in
theorem ggX8_refuses_X8_fail : GoodIn wsX8_refuses wsX8_fail := goodIn_r _ [8, 9, 10, 11, 12, 13, 14, 15, 16, 17, 18, 19, 20, 21, 22, 23, 24, 25, 26, 27, 28, 29, 30, 31, 32, 33, 34, 35, 36] (by decide +kernel) (by decide +kernel)
set_option maxRecDepth 20000 in
theorem gX8_refuses_X8_fail : GoodIn wsX8_refuses (wsV RX8 66 RX8 yX8_fail wsX8_fail) := goodIn_app (goodIn_of _ (by decide +kernel)) ggX8_refuses_X8_fail
theorem dX8_refuses_0 : decode cX8_refuses 0 = .ok (.aload_n 0, 1) := by decide +kernel
theorem dX8_refuses_1 : decode cX8_refuses 1 = .ok (.iload_n 1, 1) := by decide +kernel
theorem dX8_refuses_2 : decode cX8_refuses 2 = .ok (.putfield 57, 3) := by decide +kernel
theorem dX8_refuses_5 : decode cX8_refuses 5 = .ok (.aload_n 0, 1) := by decide +kernel
theorem dX8_refuses_6 : decode cX8_refuses 6 = .ok (.iload_n 2, 1) := by decide +kernel
theorem dX8_refuses_7 : decode cX8_refuses 7 = .ok (.putfield 60, 3) := by decide +kernel
theorem dX8_refuses_10 : decode cX8_refuses 10 = .ok (.aload_n 0, 1) := by decide +kernel
theorem dX8_refuses_11 : decode cX8_refuses 11 = .ok (.iconst 0, 1) := by decide +kernel
theorem dX8_refuses_12 : decode cX8_refuses 12 = .ok (.putfield 63, 3) := by decide +kernel
theorem dX8_refuses_15 : decode cX8_refuses 15 = .ok (.aload_n 0, 1) := by decide +kernel
theorem dX8_refuses_16 : decode cX8_refuses 16 = .ok (.bipush (-5), 2) := by decide +kernel
theorem dX8_refuses_18 : decode cX8_refuses 18 = .ok (.invokevirtual 66, 3) := by decide +kernel
theorem dX8_refuses_21 : decode cX8_refuses 21 = .ok (.ireturn, 1) := by decide +kernel
theorem dX8_isIn_0 : decode cX8_isIn 0 = .ok (.iload_n 0, 1) := by decide +kernel
theorem dX8_isIn_1 : decode cX8_isIn 1 = .ok (.iload_n 1, 1) := by decide +kernel
theorem dX8_isIn_2 : decode cX8_isIn 2 = .ok (.if_icmp .lt 12, 3) := by decide +kernel
theorem dX8_isIn_5 : decode cX8_isIn 5 = .ok (.iload_n 0, 1) := by decide +kernel
theorem dX8_isIn_6 : decode cX8_isIn 6 = .ok (.iload_n 2, 1) := by decide +kernel
theorem dX8_isIn_7 : decode cX8_isIn 7 = .ok (.if_icmp .gt 7, 3) := by decide +kernel
theorem dX8_isIn_10 : decode cX8_isIn 10 = .ok (.iconst 1, 1) := by decide +kernel
theorem dX8_isIn_11 : decode cX8_isIn 11 = .ok (.goto 4, 3) := by decide +kernel
theorem dX8_isIn_14 : decode cX8_isIn 14 = .ok (.iconst 0, 1) := by decide +kernel
theorem dX8_isIn_15 : decode cX8_isIn 15 = .ok (.ireturn, 1) := by decide +kernel
theorem dX8_lays_0 : decode cX8_lays 0 = .ok (.iconst 0, 1) := by decide +kernel
theorem dX8_lays_1 : decode cX8_lays 1 = .ok (.istore_n 2, 1) := by decide +kernel
theorem dX8_lays_2 : decode cX8_lays 2 = .ok (.iload_n 2, 1) := by decide +kernel
theorem dX8_lays_3 : decode cX8_lays 3 = .ok (.bipush 79, 2) := by decide +kernel
theorem dX8_lays_5 : decode cX8_lays 5 = .ok (.if_icmp .ge 15, 3) := by decide +kernel
theorem dX8_lays_8 : decode cX8_lays 8 = .ok (.aload_n 0, 1) := by decide +kernel
theorem dX8_lays_9 : decode cX8_lays 9 = .ok (.iload_n 2, 1) := by decide +kernel
theorem dX8_lays_10 : decode cX8_lays 10 = .ok (.aload_n 1, 1) := by decide +kernel
theorem dX8_lays_11 : decode cX8_lays 11 = .ok (.iload_n 2, 1) := by decide +kernel
theorem dX8_lays_12 : decode cX8_lays 12 = .ok (.iaload, 1) := by decide +kernel
theorem dX8_lays_13 : decode cX8_lays 13 = .ok (.iastore, 1) := by decide +kernel
theorem dX8_lays_14 : decode cX8_lays 14 = .ok (.iinc 2 1, 3) := by decide +kernel
theorem dX8_lays_17 : decode cX8_lays 17 = .ok (.goto (-15), 3) := by decide +kernel
theorem dX8_lays_20 : decode cX8_lays 20 = .ok (.return_, 1) := by decide +kernel
set_option maxRecDepth 20000 in
theorem ggX8_begins_X8_lays : GoodIn wsX8_begins wsX8_lays := goodIn_r _ [7] (by decide +kernel) (by decide +kernel)
set_option maxRecDepth 20000 in
theorem gX8_begins_X8_lays : GoodIn wsX8_begins (va_wsS RX8 70 yX8_lays wsX8_lays) := goodIn_app (goodIn_of _ (by decide +kernel)) ggX8_begins_X8_lays
theorem dX8_begins_0 : decode cX8_begins 0 = .ok (.aload_n 0, 1) := by decide +kernel
theorem dX8_begins_1 : decode cX8_begins 1 = .ok (.iconst 0, 1) := by decide +kernel
theorem dX8_begins_2 : decode cX8_begins 2 = .ok (.putfield 54, 3) := by decide +kernel
theorem dX8_begins_5 : decode cX8_begins 5 = .ok (.aload_n 0, 1) := by decide +kernel
theorem dX8_begins_6 : decode cX8_begins 6 = .ok (.getfield 17, 3) := by decide +kernel
theorem dX8_begins_9 : decode cX8_begins 9 = .ok (.aload_n 0, 1) := by decide +kernel
theorem dX8_begins_10 : decode cX8_begins 10 = .ok (.getfield 13, 3) := by decide +kernel
theorem dX8_begins_13 : decode cX8_begins 13 = .ok (.invokestatic 70, 3) := by decide +kernel
theorem dX8_begins_16 : decode cX8_begins 16 = .ok (.return_, 1) := by decide +kernel
set_option maxRecDepth 20000 in
theorem ggX8_ends_X8_lays : GoodIn wsX8_ends wsX8_lays := goodIn_r _ [9] (by decide +kernel) (by decide +kernel)
set_option maxRecDepth 20000 in
theorem gX8_ends_X8_lays : GoodIn wsX8_ends (va_wsS RX8 70 yX8_lays wsX8_lays) := goodIn_app (goodIn_of _ (by decide +kernel)) ggX8_ends_X8_lays
theorem dX8_ends_0 : decode cX8_ends 0 = .ok (.aload_n 0, 1) := by decide +kernel
theorem dX8_ends_1 : decode cX8_ends 1 = .ok (.getfield 54, 3) := by decide +kernel
theorem dX8_ends_4 : decode cX8_ends 4 = .ok (.ifCond .eq 19, 3) := by decide +kernel
theorem dX8_ends_7 : decode cX8_ends 7 = .ok (.aload_n 0, 1) := by decide +kernel
theorem dX8_ends_8 : decode cX8_ends 8 = .ok (.getfield 13, 3) := by decide +kernel
theorem dX8_ends_11 : decode cX8_ends 11 = .ok (.aload_n 0, 1) := by decide +kernel
theorem dX8_ends_12 : decode cX8_ends 12 = .ok (.getfield 17, 3) := by decide +kernel
theorem dX8_ends_15 : decode cX8_ends 15 = .ok (.invokestatic 70, 3) := by decide +kernel
theorem dX8_ends_18 : decode cX8_ends 18 = .ok (.aload_n 0, 1) := by decide +kernel
theorem dX8_ends_19 : decode cX8_ends 19 = .ok (.getfield 54, 3) := by decide +kernel
theorem dX8_ends_22 : decode cX8_ends 22 = .ok (.ireturn, 1) := by decide +kernel
theorem dX8_ends_23 : decode cX8_ends 23 = .ok (.aload_n 0, 1) := by decide +kernel
theorem dX8_ends_24 : decode cX8_ends 24 = .ok (.getfield 74, 3) := by decide +kernel
theorem dX8_ends_27 : decode cX8_ends 27 = .ok (.bipush 8, 2) := by decide +kernel
theorem dX8_ends_29 : decode cX8_ends 29 = .ok (.if_icmp .ne 43, 3) := by decide +kernel
theorem dX8_ends_32 : decode cX8_ends 32 = .ok (.iconst 0, 1) := by decide +kernel
theorem dX8_ends_33 : decode cX8_ends 33 = .ok (.istore_n 2, 1) := by decide +kernel
theorem dX8_ends_34 : decode cX8_ends 34 = .ok (.iload_n 2, 1) := by decide +kernel
theorem dX8_ends_35 : decode cX8_ends 35 = .ok (.sipush 553, 3) := by decide +kernel
theorem dX8_ends_38 : decode cX8_ends 38 = .ok (.if_icmp .ge 24, 3) := by decide +kernel
theorem dX8_ends_41 : decode cX8_ends 41 = .ok (.aload_n 0, 1) := by decide +kernel
theorem dX8_ends_42 : decode cX8_ends 42 = .ok (.getfield 26, 3) := by decide +kernel
theorem dX8_ends_45 : decode cX8_ends 45 = .ok (.iload_n 2, 1) := by decide +kernel
theorem dX8_ends_46 : decode cX8_ends 46 = .ok (.aload_n 0, 1) := by decide +kernel
theorem dX8_ends_47 : decode cX8_ends 47 = .ok (.getfield 26, 3) := by decide +kernel
theorem dX8_ends_50 : decode cX8_ends 50 = .ok (.iload_n 2, 1) := by decide +kernel
theorem dX8_ends_51 : decode cX8_ends 51 = .ok (.bipush 79, 2) := by decide +kernel
theorem dX8_ends_53 : decode cX8_ends 53 = .ok (.iadd, 1) := by decide +kernel
theorem dX8_ends_54 : decode cX8_ends 54 = .ok (.iaload, 1) := by decide +kernel
theorem dX8_ends_55 : decode cX8_ends 55 = .ok (.iastore, 1) := by decide +kernel
theorem dX8_ends_56 : decode cX8_ends 56 = .ok (.iinc 2 1, 3) := by decide +kernel
theorem dX8_ends_59 : decode cX8_ends 59 = .ok (.goto (-25), 3) := by decide +kernel
theorem dX8_ends_62 : decode cX8_ends 62 = .ok (.aload_n 0, 1) := by decide +kernel
theorem dX8_ends_63 : decode cX8_ends 63 = .ok (.dup, 1) := by decide +kernel
theorem dX8_ends_64 : decode cX8_ends 64 = .ok (.getfield 74, 3) := by decide +kernel
theorem dX8_ends_67 : decode cX8_ends 67 = .ok (.iconst 1, 1) := by decide +kernel
theorem dX8_ends_68 : decode cX8_ends 68 = .ok (.isub, 1) := by decide +kernel
theorem dX8_ends_69 : decode cX8_ends 69 = .ok (.putfield 74, 3) := by decide +kernel
theorem dX8_ends_72 : decode cX8_ends 72 = .ok (.iconst 0, 1) := by decide +kernel
theorem dX8_ends_73 : decode cX8_ends 73 = .ok (.istore_n 2, 1) := by decide +kernel
theorem dX8_ends_74 : decode cX8_ends 74 = .ok (.iload_n 2, 1) := by decide +kernel
theorem dX8_ends_75 : decode cX8_ends 75 = .ok (.bipush 79, 2) := by decide +kernel
theorem dX8_ends_77 : decode cX8_ends 77 = .ok (.if_icmp .ge 29, 3) := by decide +kernel
theorem dX8_ends_80 : decode cX8_ends 80 = .ok (.aload_n 0, 1) := by decide +kernel
theorem dX8_ends_81 : decode cX8_ends 81 = .ok (.getfield 26, 3) := by decide +kernel
theorem dX8_ends_84 : decode cX8_ends 84 = .ok (.aload_n 0, 1) := by decide +kernel
theorem dX8_ends_85 : decode cX8_ends 85 = .ok (.getfield 74, 3) := by decide +kernel
theorem dX8_ends_88 : decode cX8_ends 88 = .ok (.bipush 79, 2) := by decide +kernel
theorem dX8_ends_90 : decode cX8_ends 90 = .ok (.imul, 1) := by decide +kernel
theorem dX8_ends_91 : decode cX8_ends 91 = .ok (.iload_n 2, 1) := by decide +kernel
theorem dX8_ends_92 : decode cX8_ends 92 = .ok (.iadd, 1) := by decide +kernel
theorem dX8_ends_93 : decode cX8_ends 93 = .ok (.aload_n 0, 1) := by decide +kernel
theorem dX8_ends_94 : decode cX8_ends 94 = .ok (.getfield 17, 3) := by decide +kernel
theorem dX8_ends_97 : decode cX8_ends 97 = .ok (.iload_n 2, 1) := by decide +kernel
theorem dX8_ends_98 : decode cX8_ends 98 = .ok (.iaload, 1) := by decide +kernel
theorem dX8_ends_99 : decode cX8_ends 99 = .ok (.iastore, 1) := by decide +kernel
theorem dX8_ends_100 : decode cX8_ends 100 = .ok (.iinc 2 1, 3) := by decide +kernel
theorem dX8_ends_103 : decode cX8_ends 103 = .ok (.goto (-29), 3) := by decide +kernel
theorem dX8_ends_106 : decode cX8_ends 106 = .ok (.aload_n 0, 1) := by decide +kernel
theorem dX8_ends_107 : decode cX8_ends 107 = .ok (.dup, 1) := by decide +kernel
theorem dX8_ends_108 : decode cX8_ends 108 = .ok (.getfield 74, 3) := by decide +kernel
theorem dX8_ends_111 : decode cX8_ends 111 = .ok (.iconst 1, 1) := by decide +kernel
theorem dX8_ends_112 : decode cX8_ends 112 = .ok (.iadd, 1) := by decide +kernel
theorem dX8_ends_113 : decode cX8_ends 113 = .ok (.putfield 74, 3) := by decide +kernel
theorem dX8_ends_116 : decode cX8_ends 116 = .ok (.iload_n 1, 1) := by decide +kernel
theorem dX8_ends_117 : decode cX8_ends 117 = .ok (.ireturn, 1) := by decide +kernel
theorem dX8_at_0 : decode cX8_at 0 = .ok (.bipush 10, 2) := by decide +kernel
theorem dX8_at_2 : decode cX8_at 2 = .ok (.iconst 4, 1) := by decide +kernel
theorem dX8_at_3 : decode cX8_at 3 = .ok (.iload_n 0, 1) := by decide +kernel
theorem dX8_at_4 : decode cX8_at 4 = .ok (.imul, 1) := by decide +kernel
theorem dX8_at_5 : decode cX8_at 5 = .ok (.iadd, 1) := by decide +kernel
theorem dX8_at_6 : decode cX8_at 6 = .ok (.iload_n 1, 1) := by decide +kernel
theorem dX8_at_7 : decode cX8_at 7 = .ok (.iadd, 1) := by decide +kernel
theorem dX8_at_8 : decode cX8_at 8 = .ok (.ireturn, 1) := by decide +kernel
theorem dX8_in_0 : decode cX8_in 0 = .ok (.bipush 55, 2) := by decide +kernel
theorem dX8_in_2 : decode cX8_in 2 = .ok (.iconst 3, 1) := by decide +kernel
theorem dX8_in_3 : decode cX8_in 3 = .ok (.iload_n 0, 1) := by decide +kernel
theorem dX8_in_4 : decode cX8_in 4 = .ok (.imul, 1) := by decide +kernel
theorem dX8_in_5 : decode cX8_in 5 = .ok (.iadd, 1) := by decide +kernel
theorem dX8_in_6 : decode cX8_in 6 = .ok (.iload_n 1, 1) := by decide +kernel
theorem dX8_in_7 : decode cX8_in 7 = .ok (.iadd, 1) := by decide +kernel
theorem dX8_in_8 : decode cX8_in 8 = .ok (.ireturn, 1) := by decide +kernel
set_option maxRecDepth 20000 in
theorem ggX8_isTown_X8_isIn : GoodIn wsX8_isTown wsX8_isIn := goodIn_r _ [4] (by decide +kernel) (by decide +kernel)
set_option maxRecDepth 20000 in
theorem gX8_isTown_X8_isIn : GoodIn wsX8_isTown (va_wsS RX8 77 yX8_isIn wsX8_isIn) := goodIn_app (goodIn_of _ (by decide +kernel)) ggX8_isTown_X8_isIn
theorem dX8_isTown_0 : decode cX8_isTown 0 = .ok (.iload_n 0, 1) := by decide +kernel
theorem dX8_isTown_1 : decode cX8_isTown 1 = .ok (.iconst 0, 1) := by decide +kernel
theorem dX8_isTown_2 : decode cX8_isTown 2 = .ok (.iconst 4, 1) := by decide +kernel
theorem dX8_isTown_3 : decode cX8_isTown 3 = .ok (.invokestatic 77, 3) := by decide +kernel
theorem dX8_isTown_6 : decode cX8_isTown 6 = .ok (.ireturn, 1) := by decide +kernel
set_option maxRecDepth 20000 in
theorem ggX8_isCredit_X8_isIn : GoodIn wsX8_isCredit wsX8_isIn := goodIn_r _ [5] (by decide +kernel) (by decide +kernel)
set_option maxRecDepth 20000 in
theorem gX8_isCredit_X8_isIn : GoodIn wsX8_isCredit (va_wsS RX8 77 yX8_isIn wsX8_isIn) := goodIn_app (goodIn_of _ (by decide +kernel)) ggX8_isCredit_X8_isIn
theorem dX8_isCredit_0 : decode cX8_isCredit 0 = .ok (.iload_n 1, 1) := by decide +kernel
theorem dX8_isCredit_1 : decode cX8_isCredit 1 = .ok (.iconst 0, 1) := by decide +kernel
theorem dX8_isCredit_2 : decode cX8_isCredit 2 = .ok (.aload_n 0, 1) := by decide +kernel
theorem dX8_isCredit_3 : decode cX8_isCredit 3 = .ok (.getfield 13, 3) := by decide +kernel
theorem dX8_isCredit_6 : decode cX8_isCredit 6 = .ok (.iconst 1, 1) := by decide +kernel
theorem dX8_isCredit_7 : decode cX8_isCredit 7 = .ok (.iaload, 1) := by decide +kernel
theorem dX8_isCredit_8 : decode cX8_isCredit 8 = .ok (.iconst 1, 1) := by decide +kernel
theorem dX8_isCredit_9 : decode cX8_isCredit 9 = .ok (.isub, 1) := by decide +kernel
theorem dX8_isCredit_10 : decode cX8_isCredit 10 = .ok (.invokestatic 77, 3) := by decide +kernel
theorem dX8_isCredit_13 : decode cX8_isCredit 13 = .ok (.ireturn, 1) := by decide +kernel
theorem dX8_treaties_0 : decode cX8_treaties 0 = .ok (.iconst 0, 1) := by decide +kernel
theorem dX8_treaties_1 : decode cX8_treaties 1 = .ok (.istore_n 2, 1) := by decide +kernel
theorem dX8_treaties_2 : decode cX8_treaties 2 = .ok (.iconst 0, 1) := by decide +kernel
theorem dX8_treaties_3 : decode cX8_treaties 3 = .ok (.istore_n 3, 1) := by decide +kernel
theorem dX8_treaties_4 : decode cX8_treaties 4 = .ok (.iload_n 3, 1) := by decide +kernel
theorem dX8_treaties_5 : decode cX8_treaties 5 = .ok (.iconst 5, 1) := by decide +kernel
theorem dX8_treaties_6 : decode cX8_treaties 6 = .ok (.if_icmp .ge 25, 3) := by decide +kernel
theorem dX8_treaties_9 : decode cX8_treaties 9 = .ok (.iload_n 2, 1) := by decide +kernel
theorem dX8_treaties_10 : decode cX8_treaties 10 = .ok (.aload_n 0, 1) := by decide +kernel
theorem dX8_treaties_11 : decode cX8_treaties 11 = .ok (.getfield 13, 3) := by decide +kernel
theorem dX8_treaties_14 : decode cX8_treaties 14 = .ok (.bipush 30, 2) := by decide +kernel
theorem dX8_treaties_16 : decode cX8_treaties 16 = .ok (.iconst 5, 1) := by decide +kernel
theorem dX8_treaties_17 : decode cX8_treaties 17 = .ok (.iload_n 1, 1) := by decide +kernel
theorem dX8_treaties_18 : decode cX8_treaties 18 = .ok (.imul, 1) := by decide +kernel
theorem dX8_treaties_19 : decode cX8_treaties 19 = .ok (.iadd, 1) := by decide +kernel
theorem dX8_treaties_20 : decode cX8_treaties 20 = .ok (.iload_n 3, 1) := by decide +kernel
theorem dX8_treaties_21 : decode cX8_treaties 21 = .ok (.iadd, 1) := by decide +kernel
theorem dX8_treaties_22 : decode cX8_treaties 22 = .ok (.iaload, 1) := by decide +kernel
theorem dX8_treaties_23 : decode cX8_treaties 23 = .ok (.iadd, 1) := by decide +kernel
theorem dX8_treaties_24 : decode cX8_treaties 24 = .ok (.istore_n 2, 1) := by decide +kernel
theorem dX8_treaties_25 : decode cX8_treaties 25 = .ok (.iinc 3 1, 3) := by decide +kernel
theorem dX8_treaties_28 : decode cX8_treaties 28 = .ok (.goto (-24), 3) := by decide +kernel
theorem dX8_treaties_31 : decode cX8_treaties 31 = .ok (.iload_n 2, 1) := by decide +kernel
theorem dX8_treaties_32 : decode cX8_treaties 32 = .ok (.ireturn, 1) := by decide +kernel
set_option maxRecDepth 20000 in
theorem ggX8_allTreaties_X8_treaties : GoodIn wsX8_allTreaties wsX8_treaties := goodIn_r _ [5, 6, 7, 8, 9, 10, 11, 12, 13, 14, 15, 16, 17, 18, 19, 20, 21, 22, 23, 24, 25, 26, 27, 28, 29, 30, 31, 32, 33] (by decide +kernel) (by decide +kernel)
set_option maxRecDepth 20000 in
theorem gX8_allTreaties_X8_treaties : GoodIn wsX8_allTreaties (wsV RX8 81 RX8 yX8_treaties wsX8_treaties) := goodIn_app (goodIn_of _ (by decide +kernel)) ggX8_allTreaties_X8_treaties
theorem dX8_allTreaties_0 : decode cX8_allTreaties 0 = .ok (.iconst 0, 1) := by decide +kernel
theorem dX8_allTreaties_1 : decode cX8_allTreaties 1 = .ok (.istore_n 1, 1) := by decide +kernel
theorem dX8_allTreaties_2 : decode cX8_allTreaties 2 = .ok (.iconst 0, 1) := by decide +kernel
theorem dX8_allTreaties_3 : decode cX8_allTreaties 3 = .ok (.istore_n 2, 1) := by decide +kernel
theorem dX8_allTreaties_4 : decode cX8_allTreaties 4 = .ok (.iload_n 2, 1) := by decide +kernel
theorem dX8_allTreaties_5 : decode cX8_allTreaties 5 = .ok (.iconst 5, 1) := by decide +kernel
theorem dX8_allTreaties_6 : decode cX8_allTreaties 6 = .ok (.if_icmp .ge 17, 3) := by decide +kernel
theorem dX8_allTreaties_9 : decode cX8_allTreaties 9 = .ok (.iload_n 1, 1) := by decide +kernel
theorem dX8_allTreaties_10 : decode cX8_allTreaties 10 = .ok (.aload_n 0, 1) := by decide +kernel
theorem dX8_allTreaties_11 : decode cX8_allTreaties 11 = .ok (.iload_n 2, 1) := by decide +kernel
theorem dX8_allTreaties_12 : decode cX8_allTreaties 12 = .ok (.invokevirtual 81, 3) := by decide +kernel
theorem dX8_allTreaties_15 : decode cX8_allTreaties 15 = .ok (.iadd, 1) := by decide +kernel
theorem dX8_allTreaties_16 : decode cX8_allTreaties 16 = .ok (.istore_n 1, 1) := by decide +kernel
theorem dX8_allTreaties_17 : decode cX8_allTreaties 17 = .ok (.iinc 2 1, 3) := by decide +kernel
theorem dX8_allTreaties_20 : decode cX8_allTreaties 20 = .ok (.goto (-16), 3) := by decide +kernel
theorem dX8_allTreaties_23 : decode cX8_allTreaties 23 = .ok (.iload_n 1, 1) := by decide +kernel
theorem dX8_allTreaties_24 : decode cX8_allTreaties 24 = .ok (.iconst 2, 1) := by decide +kernel
theorem dX8_allTreaties_25 : decode cX8_allTreaties 25 = .ok (.idiv, 1) := by decide +kernel
theorem dX8_allTreaties_26 : decode cX8_allTreaties 26 = .ok (.ireturn, 1) := by decide +kernel
set_option maxRecDepth 20000 in
theorem ggX8_treats_X8_isTown : GoodIn wsX8_treats wsX8_isTown := goodIn_r _ [5, 6, 7, 4, 8] (by decide +kernel) (by decide +kernel)
set_option maxRecDepth 20000 in
theorem gX8_treats_X8_isTown : GoodIn wsX8_treats (va_wsS RX8 84 yX8_isTown wsX8_isTown) := goodIn_app (goodIn_of _ (by decide +kernel)) ggX8_treats_X8_isTown
set_option maxRecDepth 20000 in
theorem ggX8_treats_X8_fail : GoodIn wsX8_treats wsX8_fail := goodIn_r _ [12, 13, 29, 30, 31, 32, 33, 34, 35, 36, 37, 38, 39, 40, 41, 42, 43, 44, 45, 46, 47, 48, 49, 50, 51, 52, 53, 54, 55] (by decide +kernel) (by decide +kernel)
set_option maxRecDepth 20000 in
theorem gX8_treats_X8_fail : GoodIn wsX8_treats (wsV RX8 66 RX8 yX8_fail wsX8_fail) := goodIn_app (goodIn_of _ (by decide +kernel)) ggX8_treats_X8_fail
set_option maxRecDepth 20000 in
theorem ggX8_treats_X8_refuses : GoodIn wsX8_treats wsX8_refuses := goodIn_r _ [17, 18, 19, 20, 9, 10, 11, 4, 12, 13, 29, 30, 31, 32, 33, 34, 35, 36, 37, 38, 39, 40, 41, 42, 43, 44, 45, 46, 47, 48, 49, 50, 51, 52, 53, 54, 55] (by decide +kernel) (by decide +kernel)
set_option maxRecDepth 20000 in
theorem gX8_treats_X8_refuses : GoodIn wsX8_treats (wsV RX8 88 RX8 yX8_refuses wsX8_refuses) := goodIn_app (goodIn_of _ (by decide +kernel)) ggX8_treats_X8_refuses
set_option maxRecDepth 20000 in
theorem ggX8_treats_X8_allTreaties : GoodIn wsX8_treats wsX8_allTreaties := goodIn_r _ [24, 25, 26, 27, 4, 28, 1, 29, 30, 31, 32, 33, 34, 35, 36, 37, 38, 39, 40, 41, 42, 43, 44, 45, 46, 47, 48, 49, 50, 51, 52, 53, 54, 55] (by decide +kernel) (by decide +kernel)
set_option maxRecDepth 20000 in
theorem gX8_treats_X8_allTreaties : GoodIn wsX8_treats (wsV RX8 91 RX8 yX8_allTreaties wsX8_allTreaties) := goodIn_app (goodIn_of _ (by decide +kernel)) ggX8_treats_X8_allTreaties
theorem dX8_treats_0 : decode cX8_treats 0 = .ok (.iload_n 1, 1) := by decide +kernel
theorem dX8_treats_1 : decode cX8_treats 1 = .ok (.invokestatic 84, 3) := by decide +kernel
theorem dX8_treats_4 : decode cX8_treats 4 = .ok (.ifCond .eq 10, 3) := by decide +kernel
theorem dX8_treats_7 : decode cX8_treats 7 = .ok (.iload_n 2, 1) := by decide +kernel
theorem dX8_treats_8 : decode cX8_treats 8 = .ok (.invokestatic 84, 3) := by decide +kernel
theorem dX8_treats_11 : decode cX8_treats 11 = .ok (.ifCond .ne 9, 3) := by decide +kernel
theorem dX8_treats_14 : decode cX8_treats 14 = .ok (.aload_n 0, 1) := by decide +kernel
theorem dX8_treats_15 : decode cX8_treats 15 = .ok (.iconst (-1), 1) := by decide +kernel
theorem dX8_treats_16 : decode cX8_treats 16 = .ok (.invokevirtual 66, 3) := by decide +kernel
theorem dX8_treats_19 : decode cX8_treats 19 = .ok (.ireturn, 1) := by decide +kernel
theorem dX8_treats_20 : decode cX8_treats 20 = .ok (.iload_n 1, 1) := by decide +kernel
theorem dX8_treats_21 : decode cX8_treats 21 = .ok (.iload_n 2, 1) := by decide +kernel
theorem dX8_treats_22 : decode cX8_treats 22 = .ok (.if_icmp .ne 11, 3) := by decide +kernel
theorem dX8_treats_25 : decode cX8_treats 25 = .ok (.aload_n 0, 1) := by decide +kernel
theorem dX8_treats_26 : decode cX8_treats 26 = .ok (.bipush 8, 2) := by decide +kernel
theorem dX8_treats_28 : decode cX8_treats 28 = .ok (.iload_n 1, 1) := by decide +kernel
theorem dX8_treats_29 : decode cX8_treats 29 = .ok (.invokevirtual 88, 3) := by decide +kernel
theorem dX8_treats_32 : decode cX8_treats 32 = .ok (.ireturn, 1) := by decide +kernel
theorem dX8_treats_33 : decode cX8_treats 33 = .ok (.aload_n 0, 1) := by decide +kernel
theorem dX8_treats_34 : decode cX8_treats 34 = .ok (.getfield 13, 3) := by decide +kernel
theorem dX8_treats_37 : decode cX8_treats 37 = .ok (.bipush 30, 2) := by decide +kernel
theorem dX8_treats_39 : decode cX8_treats 39 = .ok (.iconst 5, 1) := by decide +kernel
theorem dX8_treats_40 : decode cX8_treats 40 = .ok (.iload_n 1, 1) := by decide +kernel
theorem dX8_treats_41 : decode cX8_treats 41 = .ok (.imul, 1) := by decide +kernel
theorem dX8_treats_42 : decode cX8_treats 42 = .ok (.iadd, 1) := by decide +kernel
theorem dX8_treats_43 : decode cX8_treats 43 = .ok (.iload_n 2, 1) := by decide +kernel
theorem dX8_treats_44 : decode cX8_treats 44 = .ok (.iadd, 1) := by decide +kernel
theorem dX8_treats_45 : decode cX8_treats 45 = .ok (.iaload, 1) := by decide +kernel
theorem dX8_treats_46 : decode cX8_treats 46 = .ok (.iload_n 3, 1) := by decide +kernel
theorem dX8_treats_47 : decode cX8_treats 47 = .ok (.if_icmp .ne 11, 3) := by decide +kernel
theorem dX8_treats_50 : decode cX8_treats 50 = .ok (.aload_n 0, 1) := by decide +kernel
theorem dX8_treats_51 : decode cX8_treats 51 = .ok (.bipush 7, 2) := by decide +kernel
theorem dX8_treats_53 : decode cX8_treats 53 = .ok (.iload_n 3, 1) := by decide +kernel
theorem dX8_treats_54 : decode cX8_treats 54 = .ok (.invokevirtual 88, 3) := by decide +kernel
theorem dX8_treats_57 : decode cX8_treats 57 = .ok (.ireturn, 1) := by decide +kernel
theorem dX8_treats_58 : decode cX8_treats 58 = .ok (.aload_n 0, 1) := by decide +kernel
theorem dX8_treats_59 : decode cX8_treats 59 = .ok (.getfield 13, 3) := by decide +kernel
theorem dX8_treats_62 : decode cX8_treats 62 = .ok (.bipush 30, 2) := by decide +kernel
theorem dX8_treats_64 : decode cX8_treats 64 = .ok (.iconst 5, 1) := by decide +kernel
theorem dX8_treats_65 : decode cX8_treats 65 = .ok (.iload_n 1, 1) := by decide +kernel
theorem dX8_treats_66 : decode cX8_treats 66 = .ok (.imul, 1) := by decide +kernel
theorem dX8_treats_67 : decode cX8_treats 67 = .ok (.iadd, 1) := by decide +kernel
theorem dX8_treats_68 : decode cX8_treats 68 = .ok (.iload_n 2, 1) := by decide +kernel
theorem dX8_treats_69 : decode cX8_treats 69 = .ok (.iadd, 1) := by decide +kernel
theorem dX8_treats_70 : decode cX8_treats 70 = .ok (.iload_n 3, 1) := by decide +kernel
theorem dX8_treats_71 : decode cX8_treats 71 = .ok (.iastore, 1) := by decide +kernel
theorem dX8_treats_72 : decode cX8_treats 72 = .ok (.aload_n 0, 1) := by decide +kernel
theorem dX8_treats_73 : decode cX8_treats 73 = .ok (.getfield 13, 3) := by decide +kernel
theorem dX8_treats_76 : decode cX8_treats 76 = .ok (.bipush 30, 2) := by decide +kernel
theorem dX8_treats_78 : decode cX8_treats 78 = .ok (.iconst 5, 1) := by decide +kernel
theorem dX8_treats_79 : decode cX8_treats 79 = .ok (.iload_n 2, 1) := by decide +kernel
theorem dX8_treats_80 : decode cX8_treats 80 = .ok (.imul, 1) := by decide +kernel
theorem dX8_treats_81 : decode cX8_treats 81 = .ok (.iadd, 1) := by decide +kernel
theorem dX8_treats_82 : decode cX8_treats 82 = .ok (.iload_n 1, 1) := by decide +kernel
theorem dX8_treats_83 : decode cX8_treats 83 = .ok (.iadd, 1) := by decide +kernel
theorem dX8_treats_84 : decode cX8_treats 84 = .ok (.iload_n 3, 1) := by decide +kernel
theorem dX8_treats_85 : decode cX8_treats 85 = .ok (.iastore, 1) := by decide +kernel
theorem dX8_treats_86 : decode cX8_treats 86 = .ok (.aload_n 0, 1) := by decide +kernel
theorem dX8_treats_87 : decode cX8_treats 87 = .ok (.invokevirtual 91, 3) := by decide +kernel
theorem dX8_treats_90 : decode cX8_treats 90 = .ok (.ireturn, 1) := by decide +kernel
set_option maxRecDepth 20000 in
theorem ggX8_treaty_X8_begins : GoodIn wsX8_treaty wsX8_begins := goodIn_r _ [5, 6, 7, 8, 9, 10, 4, 11, 47, 48, 49, 50, 51, 52, 53, 54, 55, 56, 57, 58, 59, 60, 61, 62, 63, 64, 65, 66, 67, 68, 69, 70, 71, 72, 73] (by decide +kernel) (by decide +kernel)
set_option maxRecDepth 20000 in
theorem gX8_treaty_X8_begins : GoodIn wsX8_treaty (wsV RX8 95 RX8 yX8_begins wsX8_begins) := goodIn_app (goodIn_of _ (by decide +kernel)) ggX8_treaty_X8_begins
set_option maxRecDepth 20000 in
theorem ggX8_treaty_X8_treats : GoodIn wsX8_treaty wsX8_treats := goodIn_r _ [15, 8, 16, 17, 4, 18, 19, 20, 21, 22, 23, 24, 25, 6, 26, 27, 28, 29, 30, 31, 32, 33, 34, 35, 36, 37, 38, 39, 40, 47, 48, 49, 50, 51, 52, 53, 54, 55, 56, 57, 58, 59, 60, 61, 62, 63, 64, 65, 66, 67, 68, 69, 70, 71, 72, 73] (by decide +kernel) (by decide +kernel)
set_option maxRecDepth 20000 in
theorem gX8_treaty_X8_treats : GoodIn wsX8_treaty (wsV RX8 98 RX8 yX8_treats wsX8_treats) := goodIn_app (goodIn_of _ (by decide +kernel)) ggX8_treaty_X8_treats
set_option maxRecDepth 20000 in
theorem ggX8_treaty_X8_ends : GoodIn wsX8_treaty wsX8_ends := goodIn_r _ [44, 6, 8, 7, 45, 46, 9, 10, 4, 11, 47, 48, 49, 50, 51, 52, 53, 54, 55, 56, 57, 58, 59, 60, 61, 62, 63, 64, 65, 66, 67, 68, 69, 70, 71, 72, 73] (by decide +kernel) (by decide +kernel)
set_option maxRecDepth 20000 in
theorem gX8_treaty_X8_ends : GoodIn wsX8_treaty (wsV RX8 102 RX8 yX8_ends wsX8_ends) := goodIn_app (goodIn_of _ (by decide +kernel)) ggX8_treaty_X8_ends
theorem dX8_treaty_0 : decode cX8_treaty 0 = .ok (.aload_n 0, 1) := by decide +kernel
theorem dX8_treaty_1 : decode cX8_treaty 1 = .ok (.invokevirtual 95, 3) := by decide +kernel
theorem dX8_treaty_4 : decode cX8_treaty 4 = .ok (.aload_n 0, 1) := by decide +kernel
theorem dX8_treaty_5 : decode cX8_treaty 5 = .ok (.aload_n 0, 1) := by decide +kernel
theorem dX8_treaty_6 : decode cX8_treaty 6 = .ok (.iload_n 1, 1) := by decide +kernel
theorem dX8_treaty_7 : decode cX8_treaty 7 = .ok (.iload_n 2, 1) := by decide +kernel
theorem dX8_treaty_8 : decode cX8_treaty 8 = .ok (.iload_n 3, 1) := by decide +kernel
theorem dX8_treaty_9 : decode cX8_treaty 9 = .ok (.ifCond .eq 7, 3) := by decide +kernel
theorem dX8_treaty_12 : decode cX8_treaty 12 = .ok (.iconst 1, 1) := by decide +kernel
theorem dX8_treaty_13 : decode cX8_treaty 13 = .ok (.goto 4, 3) := by decide +kernel
theorem dX8_treaty_16 : decode cX8_treaty 16 = .ok (.iconst 0, 1) := by decide +kernel
theorem dX8_treaty_17 : decode cX8_treaty 17 = .ok (.invokevirtual 98, 3) := by decide +kernel
theorem dX8_treaty_20 : decode cX8_treaty 20 = .ok (.invokevirtual 102, 3) := by decide +kernel
theorem dX8_treaty_23 : decode cX8_treaty 23 = .ok (.ireturn, 1) := by decide +kernel
theorem dX8_finds_0 : decode cX8_finds 0 = .ok (.iconst 0, 1) := by decide +kernel
theorem dX8_finds_1 : decode cX8_finds 1 = .ok (.istore_n 2, 1) := by decide +kernel
theorem dX8_finds_2 : decode cX8_finds 2 = .ok (.iload_n 2, 1) := by decide +kernel
theorem dX8_finds_3 : decode cX8_finds 3 = .ok (.iconst 5, 1) := by decide +kernel
theorem dX8_finds_4 : decode cX8_finds 4 = .ok (.if_icmp .ge 25, 3) := by decide +kernel
theorem dX8_finds_7 : decode cX8_finds 7 = .ok (.aload_n 0, 1) := by decide +kernel
theorem dX8_finds_8 : decode cX8_finds 8 = .ok (.getfield 32, 3) := by decide +kernel
theorem dX8_finds_11 : decode cX8_finds 11 = .ok (.iload_n 2, 1) := by decide +kernel
theorem dX8_finds_12 : decode cX8_finds 12 = .ok (.iload_n 2, 1) := by decide +kernel
theorem dX8_finds_13 : decode cX8_finds 13 = .ok (.iload_n 1, 1) := by decide +kernel
theorem dX8_finds_14 : decode cX8_finds 14 = .ok (.if_icmp .ne 7, 3) := by decide +kernel
theorem dX8_finds_17 : decode cX8_finds 17 = .ok (.iconst 0, 1) := by decide +kernel
theorem dX8_finds_18 : decode cX8_finds 18 = .ok (.goto 4, 3) := by decide +kernel
theorem dX8_finds_21 : decode cX8_finds 21 = .ok (.iconst (-1), 1) := by decide +kernel
theorem dX8_finds_22 : decode cX8_finds 22 = .ok (.iastore, 1) := by decide +kernel
theorem dX8_finds_23 : decode cX8_finds 23 = .ok (.iinc 2 1, 3) := by decide +kernel
theorem dX8_finds_26 : decode cX8_finds 26 = .ok (.goto (-24), 3) := by decide +kernel
theorem dX8_finds_29 : decode cX8_finds 29 = .ok (.iconst 1, 1) := by decide +kernel
theorem dX8_finds_30 : decode cX8_finds 30 = .ok (.istore_n 2, 1) := by decide +kernel
theorem dX8_finds_31 : decode cX8_finds 31 = .ok (.iload_n 2, 1) := by decide +kernel
theorem dX8_finds_32 : decode cX8_finds 32 = .ok (.iconst 5, 1) := by decide +kernel
theorem dX8_finds_33 : decode cX8_finds 33 = .ok (.if_icmp .ge 102, 3) := by decide +kernel
theorem dX8_finds_36 : decode cX8_finds 36 = .ok (.iconst 0, 1) := by decide +kernel
theorem dX8_finds_37 : decode cX8_finds 37 = .ok (.istore_n 3, 1) := by decide +kernel
theorem dX8_finds_38 : decode cX8_finds 38 = .ok (.iload_n 3, 1) := by decide +kernel
theorem dX8_finds_39 : decode cX8_finds 39 = .ok (.iconst 5, 1) := by decide +kernel
theorem dX8_finds_40 : decode cX8_finds 40 = .ok (.if_icmp .ge 89, 3) := by decide +kernel
theorem dX8_finds_43 : decode cX8_finds 43 = .ok (.iconst 0, 1) := by decide +kernel
theorem dX8_finds_44 : decode cX8_finds 44 = .ok (.istore 4, 2) := by decide +kernel
theorem dX8_finds_46 : decode cX8_finds 46 = .ok (.iconst 0, 1) := by decide +kernel
theorem dX8_finds_47 : decode cX8_finds 47 = .ok (.istore 5, 2) := by decide +kernel
theorem dX8_finds_49 : decode cX8_finds 49 = .ok (.iload 5, 2) := by decide +kernel
theorem dX8_finds_51 : decode cX8_finds 51 = .ok (.iconst 5, 1) := by decide +kernel
theorem dX8_finds_52 : decode cX8_finds 52 = .ok (.if_icmp .ge 50, 3) := by decide +kernel
theorem dX8_finds_55 : decode cX8_finds 55 = .ok (.iload 4, 2) := by decide +kernel
theorem dX8_finds_57 : decode cX8_finds 57 = .ok (.aload_n 0, 1) := by decide +kernel
theorem dX8_finds_58 : decode cX8_finds 58 = .ok (.getfield 32, 3) := by decide +kernel
theorem dX8_finds_61 : decode cX8_finds 61 = .ok (.iload 5, 2) := by decide +kernel
theorem dX8_finds_63 : decode cX8_finds 63 = .ok (.iaload, 1) := by decide +kernel
theorem dX8_finds_64 : decode cX8_finds 64 = .ok (.iload_n 2, 1) := by decide +kernel
theorem dX8_finds_65 : decode cX8_finds 65 = .ok (.iconst 1, 1) := by decide +kernel
theorem dX8_finds_66 : decode cX8_finds 66 = .ok (.isub, 1) := by decide +kernel
theorem dX8_finds_67 : decode cX8_finds 67 = .ok (.if_icmp .ne 25, 3) := by decide +kernel
theorem dX8_finds_70 : decode cX8_finds 70 = .ok (.aload_n 0, 1) := by decide +kernel
theorem dX8_finds_71 : decode cX8_finds 71 = .ok (.getfield 13, 3) := by decide +kernel
theorem dX8_finds_74 : decode cX8_finds 74 = .ok (.bipush 30, 2) := by decide +kernel
theorem dX8_finds_76 : decode cX8_finds 76 = .ok (.iconst 5, 1) := by decide +kernel
theorem dX8_finds_77 : decode cX8_finds 77 = .ok (.iload_n 3, 1) := by decide +kernel
theorem dX8_finds_78 : decode cX8_finds 78 = .ok (.imul, 1) := by decide +kernel
theorem dX8_finds_79 : decode cX8_finds 79 = .ok (.iadd, 1) := by decide +kernel
theorem dX8_finds_80 : decode cX8_finds 80 = .ok (.iload 5, 2) := by decide +kernel
theorem dX8_finds_82 : decode cX8_finds 82 = .ok (.iadd, 1) := by decide +kernel
theorem dX8_finds_83 : decode cX8_finds 83 = .ok (.iaload, 1) := by decide +kernel
theorem dX8_finds_84 : decode cX8_finds 84 = .ok (.iconst 1, 1) := by decide +kernel
theorem dX8_finds_85 : decode cX8_finds 85 = .ok (.if_icmp .ne 7, 3) := by decide +kernel
theorem dX8_finds_88 : decode cX8_finds 88 = .ok (.iconst 1, 1) := by decide +kernel
theorem dX8_finds_89 : decode cX8_finds 89 = .ok (.goto 4, 3) := by decide +kernel
theorem dX8_finds_92 : decode cX8_finds 92 = .ok (.iconst 0, 1) := by decide +kernel
theorem dX8_finds_93 : decode cX8_finds 93 = .ok (.ior, 1) := by decide +kernel
theorem dX8_finds_94 : decode cX8_finds 94 = .ok (.istore 4, 2) := by decide +kernel
theorem dX8_finds_96 : decode cX8_finds 96 = .ok (.iinc 5 1, 3) := by decide +kernel
theorem dX8_finds_99 : decode cX8_finds 99 = .ok (.goto (-50), 3) := by decide +kernel
theorem dX8_finds_102 : decode cX8_finds 102 = .ok (.iload 4, 2) := by decide +kernel
theorem dX8_finds_104 : decode cX8_finds 104 = .ok (.ifCond .eq 19, 3) := by decide +kernel
theorem dX8_finds_107 : decode cX8_finds 107 = .ok (.aload_n 0, 1) := by decide +kernel
theorem dX8_finds_108 : decode cX8_finds 108 = .ok (.getfield 32, 3) := by decide +kernel
theorem dX8_finds_111 : decode cX8_finds 111 = .ok (.iload_n 3, 1) := by decide +kernel
theorem dX8_finds_112 : decode cX8_finds 112 = .ok (.iaload, 1) := by decide +kernel
theorem dX8_finds_113 : decode cX8_finds 113 = .ok (.ifCond .ge 10, 3) := by decide +kernel
theorem dX8_finds_116 : decode cX8_finds 116 = .ok (.aload_n 0, 1) := by decide +kernel
theorem dX8_finds_117 : decode cX8_finds 117 = .ok (.getfield 32, 3) := by decide +kernel
theorem dX8_finds_120 : decode cX8_finds 120 = .ok (.iload_n 3, 1) := by decide +kernel
theorem dX8_finds_121 : decode cX8_finds 121 = .ok (.iload_n 2, 1) := by decide +kernel
theorem dX8_finds_122 : decode cX8_finds 122 = .ok (.iastore, 1) := by decide +kernel
theorem dX8_finds_123 : decode cX8_finds 123 = .ok (.iinc 3 1, 3) := by decide +kernel
theorem dX8_finds_126 : decode cX8_finds 126 = .ok (.goto (-88), 3) := by decide +kernel
theorem dX8_finds_129 : decode cX8_finds 129 = .ok (.iinc 2 1, 3) := by decide +kernel
theorem dX8_finds_132 : decode cX8_finds 132 = .ok (.goto (-101), 3) := by decide +kernel
theorem dX8_finds_135 : decode cX8_finds 135 = .ok (.return_, 1) := by decide +kernel
theorem dX8_share_0 : decode cX8_share 0 = .ok (.aload_n 0, 1) := by decide +kernel
theorem dX8_share_1 : decode cX8_share 1 = .ok (.getfield 32, 3) := by decide +kernel
theorem dX8_share_4 : decode cX8_share 4 = .ok (.iload_n 1, 1) := by decide +kernel
theorem dX8_share_5 : decode cX8_share 5 = .ok (.iaload, 1) := by decide +kernel
theorem dX8_share_6 : decode cX8_share 6 = .ok (.ifCond .ge 7, 3) := by decide +kernel
theorem dX8_share_9 : decode cX8_share 9 = .ok (.iconst 0, 1) := by decide +kernel
theorem dX8_share_10 : decode cX8_share 10 = .ok (.goto 4, 3) := by decide +kernel
theorem dX8_share_13 : decode cX8_share 13 = .ok (.iload_n 2, 1) := by decide +kernel
theorem dX8_share_14 : decode cX8_share 14 = .ok (.istore_n 3, 1) := by decide +kernel
theorem dX8_share_15 : decode cX8_share 15 = .ok (.iconst 0, 1) := by decide +kernel
theorem dX8_share_16 : decode cX8_share 16 = .ok (.istore 4, 2) := by decide +kernel
theorem dX8_share_18 : decode cX8_share 18 = .ok (.iload 4, 2) := by decide +kernel
theorem dX8_share_20 : decode cX8_share 20 = .ok (.aload_n 0, 1) := by decide +kernel
theorem dX8_share_21 : decode cX8_share 21 = .ok (.getfield 32, 3) := by decide +kernel
theorem dX8_share_24 : decode cX8_share 24 = .ok (.iload_n 1, 1) := by decide +kernel
theorem dX8_share_25 : decode cX8_share 25 = .ok (.iaload, 1) := by decide +kernel
theorem dX8_share_26 : decode cX8_share 26 = .ok (.if_icmp .ge 13, 3) := by decide +kernel
theorem dX8_share_29 : decode cX8_share 29 = .ok (.iload_n 3, 1) := by decide +kernel
theorem dX8_share_30 : decode cX8_share 30 = .ok (.iconst 2, 1) := by decide +kernel
theorem dX8_share_31 : decode cX8_share 31 = .ok (.idiv, 1) := by decide +kernel
theorem dX8_share_32 : decode cX8_share 32 = .ok (.istore_n 3, 1) := by decide +kernel
theorem dX8_share_33 : decode cX8_share 33 = .ok (.iinc 4 1, 3) := by decide +kernel
theorem dX8_share_36 : decode cX8_share 36 = .ok (.goto (-18), 3) := by decide +kernel
theorem dX8_share_39 : decode cX8_share 39 = .ok (.iload_n 3, 1) := by decide +kernel
theorem dX8_share_40 : decode cX8_share 40 = .ok (.ireturn, 1) := by decide +kernel
set_option maxRecDepth 20000 in
theorem ggX8_rains_X8_finds : GoodIn wsX8_rains wsX8_finds := goodIn_r _ [6, 7, 1, 15, 16, 17, 18, 19, 20, 21, 22, 23, 24, 25, 26, 27, 28, 29, 30, 31, 32, 33, 34, 35, 36, 37, 38, 39, 40, 41] (by decide +kernel) (by decide +kernel)
set_option maxRecDepth 20000 in
theorem gX8_rains_X8_finds : GoodIn wsX8_rains (wsV RX8 105 RX8 yX8_finds wsX8_finds) := goodIn_app (goodIn_of _ (by decide +kernel)) ggX8_rains_X8_finds
set_option maxRecDepth 20000 in
theorem ggX8_rains_X8_share : GoodIn wsX8_rains wsX8_share := goodIn_r _ [11, 7, 15, 16, 17, 18, 19, 20, 21, 22, 23, 24, 25, 26, 27, 28, 29, 30, 31, 32, 33, 34, 35, 36, 37, 38, 39, 40, 41] (by decide +kernel) (by decide +kernel)
set_option maxRecDepth 20000 in
theorem gX8_rains_X8_share : GoodIn wsX8_rains (wsV RX8 109 RX8 yX8_share wsX8_share) := goodIn_app (goodIn_of _ (by decide +kernel)) ggX8_rains_X8_share
set_option maxRecDepth 20000 in
theorem ggX8_rains_X8_at : GoodIn wsX8_rains wsX8_at := goodIn_r _ [14] (by decide +kernel) (by decide +kernel)
set_option maxRecDepth 20000 in
theorem gX8_rains_X8_at : GoodIn wsX8_rains (va_wsS RX8 50 yX8_at wsX8_at) := goodIn_app (goodIn_of _ (by decide +kernel)) ggX8_rains_X8_at
theorem dX8_rains_0 : decode cX8_rains 0 = .ok (.iconst 0, 1) := by decide +kernel
theorem dX8_rains_1 : decode cX8_rains 1 = .ok (.istore_n 3, 1) := by decide +kernel
theorem dX8_rains_2 : decode cX8_rains 2 = .ok (.aload_n 0, 1) := by decide +kernel
theorem dX8_rains_3 : decode cX8_rains 3 = .ok (.iload_n 1, 1) := by decide +kernel
theorem dX8_rains_4 : decode cX8_rains 4 = .ok (.invokevirtual 105, 3) := by decide +kernel
theorem dX8_rains_7 : decode cX8_rains 7 = .ok (.iconst 0, 1) := by decide +kernel
theorem dX8_rains_8 : decode cX8_rains 8 = .ok (.istore 4, 2) := by decide +kernel
theorem dX8_rains_10 : decode cX8_rains 10 = .ok (.iload 4, 2) := by decide +kernel
theorem dX8_rains_12 : decode cX8_rains 12 = .ok (.iconst 5, 1) := by decide +kernel
theorem dX8_rains_13 : decode cX8_rains 13 = .ok (.if_icmp .ge 64, 3) := by decide +kernel
theorem dX8_rains_16 : decode cX8_rains 16 = .ok (.aload_n 0, 1) := by decide +kernel
theorem dX8_rains_17 : decode cX8_rains 17 = .ok (.iload 4, 2) := by decide +kernel
theorem dX8_rains_19 : decode cX8_rains 19 = .ok (.iload_n 2, 1) := by decide +kernel
theorem dX8_rains_20 : decode cX8_rains 20 = .ok (.invokevirtual 109, 3) := by decide +kernel
theorem dX8_rains_23 : decode cX8_rains 23 = .ok (.istore 5, 2) := by decide +kernel
theorem dX8_rains_25 : decode cX8_rains 25 = .ok (.aload_n 0, 1) := by decide +kernel
theorem dX8_rains_26 : decode cX8_rains 26 = .ok (.getfield 13, 3) := by decide +kernel
theorem dX8_rains_29 : decode cX8_rains 29 = .ok (.iload 4, 2) := by decide +kernel
theorem dX8_rains_31 : decode cX8_rains 31 = .ok (.iconst 1, 1) := by decide +kernel
theorem dX8_rains_32 : decode cX8_rains 32 = .ok (.invokestatic 50, 3) := by decide +kernel
theorem dX8_rains_35 : decode cX8_rains 35 = .ok (.iaload, 1) := by decide +kernel
theorem dX8_rains_36 : decode cX8_rains 36 = .ok (.iload 5, 2) := by decide +kernel
theorem dX8_rains_38 : decode cX8_rains 38 = .ok (.iadd, 1) := by decide +kernel
theorem dX8_rains_39 : decode cX8_rains 39 = .ok (.istore 6, 2) := by decide +kernel
theorem dX8_rains_41 : decode cX8_rains 41 = .ok (.iload_n 3, 1) := by decide +kernel
theorem dX8_rains_42 : decode cX8_rains 42 = .ok (.iload 5, 2) := by decide +kernel
theorem dX8_rains_44 : decode cX8_rains 44 = .ok (.iadd, 1) := by decide +kernel
theorem dX8_rains_45 : decode cX8_rains 45 = .ok (.istore_n 3, 1) := by decide +kernel
theorem dX8_rains_46 : decode cX8_rains 46 = .ok (.aload_n 0, 1) := by decide +kernel
theorem dX8_rains_47 : decode cX8_rains 47 = .ok (.getfield 13, 3) := by decide +kernel
theorem dX8_rains_50 : decode cX8_rains 50 = .ok (.iload 4, 2) := by decide +kernel
theorem dX8_rains_52 : decode cX8_rains 52 = .ok (.iconst 1, 1) := by decide +kernel
theorem dX8_rains_53 : decode cX8_rains 53 = .ok (.invokestatic 50, 3) := by decide +kernel
theorem dX8_rains_56 : decode cX8_rains 56 = .ok (.iload 6, 2) := by decide +kernel
theorem dX8_rains_58 : decode cX8_rains 58 = .ok (.bipush 60, 2) := by decide +kernel
theorem dX8_rains_60 : decode cX8_rains 60 = .ok (.if_icmp .le 8, 3) := by decide +kernel
theorem dX8_rains_63 : decode cX8_rains 63 = .ok (.bipush 60, 2) := by decide +kernel
theorem dX8_rains_65 : decode cX8_rains 65 = .ok (.goto 5, 3) := by decide +kernel
theorem dX8_rains_68 : decode cX8_rains 68 = .ok (.iload 6, 2) := by decide +kernel
theorem dX8_rains_70 : decode cX8_rains 70 = .ok (.iastore, 1) := by decide +kernel
theorem dX8_rains_71 : decode cX8_rains 71 = .ok (.iinc 4 1, 3) := by decide +kernel
theorem dX8_rains_74 : decode cX8_rains 74 = .ok (.goto (-64), 3) := by decide +kernel
theorem dX8_rains_77 : decode cX8_rains 77 = .ok (.iload_n 3, 1) := by decide +kernel
theorem dX8_rains_78 : decode cX8_rains 78 = .ok (.ireturn, 1) := by decide +kernel
set_option maxRecDepth 20000 in
theorem ggX8_letsRain_X8_isTown : GoodIn wsX8_letsRain wsX8_isTown := goodIn_r _ [4, 5, 6, 3, 7] (by decide +kernel) (by decide +kernel)
set_option maxRecDepth 20000 in
theorem gX8_letsRain_X8_isTown : GoodIn wsX8_letsRain (va_wsS RX8 84 yX8_isTown wsX8_isTown) := goodIn_app (goodIn_of _ (by decide +kernel)) ggX8_letsRain_X8_isTown
set_option maxRecDepth 20000 in
theorem ggX8_letsRain_X8_fail : GoodIn wsX8_letsRain wsX8_fail := goodIn_r _ [11, 12, 30, 31, 32, 33, 34, 35, 36, 37, 38, 39, 40, 41, 42, 43, 44, 45, 46, 47, 48, 49, 50, 51, 52, 53, 54, 55, 56] (by decide +kernel) (by decide +kernel)
set_option maxRecDepth 20000 in
theorem gX8_letsRain_X8_fail : GoodIn wsX8_letsRain (wsV RX8 66 RX8 yX8_fail wsX8_fail) := goodIn_app (goodIn_of _ (by decide +kernel)) ggX8_letsRain_X8_fail
set_option maxRecDepth 20000 in
theorem ggX8_letsRain_X8_isIn : GoodIn wsX8_letsRain wsX8_isIn := goodIn_r _ [7] (by decide +kernel) (by decide +kernel)
set_option maxRecDepth 20000 in
theorem gX8_letsRain_X8_isIn : GoodIn wsX8_letsRain (va_wsS RX8 77 yX8_isIn wsX8_isIn) := goodIn_app (goodIn_of _ (by decide +kernel)) ggX8_letsRain_X8_isIn
set_option maxRecDepth 20000 in
theorem ggX8_letsRain_X8_rains : GoodIn wsX8_letsRain wsX8_rains := goodIn_r _ [16, 17, 18, 19, 20, 3, 21, 22, 23, 24, 25, 26, 27, 28, 29, 30, 31, 32, 33, 34, 35, 36, 37, 38, 39, 40, 41, 42, 43, 44, 45, 46, 47, 48, 49, 50, 51, 52, 53, 54, 55, 56] (by decide +kernel) (by decide +kernel)
set_option maxRecDepth 20000 in
theorem gX8_letsRain_X8_rains : GoodIn wsX8_letsRain (wsV RX8 112 RX8 yX8_rains wsX8_rains) := goodIn_app (goodIn_of _ (by decide +kernel)) ggX8_letsRain_X8_rains
theorem dX8_letsRain_0 : decode cX8_letsRain 0 = .ok (.iload_n 1, 1) := by decide +kernel
theorem dX8_letsRain_1 : decode cX8_letsRain 1 = .ok (.invokestatic 84, 3) := by decide +kernel
theorem dX8_letsRain_4 : decode cX8_letsRain 4 = .ok (.ifCond .ne 11, 3) := by decide +kernel
theorem dX8_letsRain_7 : decode cX8_letsRain 7 = .ok (.aload_n 0, 1) := by decide +kernel
theorem dX8_letsRain_8 : decode cX8_letsRain 8 = .ok (.iconst (-1), 1) := by decide +kernel
theorem dX8_letsRain_9 : decode cX8_letsRain 9 = .ok (.invokevirtual 66, 3) := by decide +kernel
theorem dX8_letsRain_12 : decode cX8_letsRain 12 = .ok (.goto 28, 3) := by decide +kernel
theorem dX8_letsRain_15 : decode cX8_letsRain 15 = .ok (.iload_n 2, 1) := by decide +kernel
theorem dX8_letsRain_16 : decode cX8_letsRain 16 = .ok (.iconst 1, 1) := by decide +kernel
theorem dX8_letsRain_17 : decode cX8_letsRain 17 = .ok (.bipush 20, 2) := by decide +kernel
theorem dX8_letsRain_19 : decode cX8_letsRain 19 = .ok (.invokestatic 77, 3) := by decide +kernel
theorem dX8_letsRain_22 : decode cX8_letsRain 22 = .ok (.ifCond .eq 12, 3) := by decide +kernel
theorem dX8_letsRain_25 : decode cX8_letsRain 25 = .ok (.aload_n 0, 1) := by decide +kernel
theorem dX8_letsRain_26 : decode cX8_letsRain 26 = .ok (.iload_n 1, 1) := by decide +kernel
theorem dX8_letsRain_27 : decode cX8_letsRain 27 = .ok (.iload_n 2, 1) := by decide +kernel
theorem dX8_letsRain_28 : decode cX8_letsRain 28 = .ok (.invokevirtual 112, 3) := by decide +kernel
theorem dX8_letsRain_31 : decode cX8_letsRain 31 = .ok (.goto 9, 3) := by decide +kernel
theorem dX8_letsRain_34 : decode cX8_letsRain 34 = .ok (.aload_n 0, 1) := by decide +kernel
theorem dX8_letsRain_35 : decode cX8_letsRain 35 = .ok (.bipush (-2), 2) := by decide +kernel
theorem dX8_letsRain_37 : decode cX8_letsRain 37 = .ok (.invokevirtual 66, 3) := by decide +kernel
theorem dX8_letsRain_40 : decode cX8_letsRain 40 = .ok (.ireturn, 1) := by decide +kernel
set_option maxRecDepth 20000 in
theorem ggX8_rain_X8_begins : GoodIn wsX8_rain wsX8_begins := goodIn_r _ [5, 6, 7, 8, 9, 10, 4, 11, 48, 49, 50, 51, 52, 53, 54, 55, 56, 57, 58, 59, 60, 61, 62, 63, 64, 65, 66, 67, 68, 69, 70, 71, 72, 73, 74] (by decide +kernel) (by decide +kernel)
set_option maxRecDepth 20000 in
theorem gX8_rain_X8_begins : GoodIn wsX8_rain (wsV RX8 95 RX8 yX8_begins wsX8_begins) := goodIn_app (goodIn_of _ (by decide +kernel)) ggX8_rain_X8_begins
set_option maxRecDepth 20000 in
theorem ggX8_rain_X8_letsRain : GoodIn wsX8_rain wsX8_letsRain := goodIn_r _ [15, 16, 17, 4, 18, 19, 20, 21, 22, 23, 24, 25, 6, 26, 27, 28, 29, 8, 30, 31, 32, 33, 34, 35, 36, 37, 38, 39, 40, 41, 48, 49, 50, 51, 52, 53, 54, 55, 56, 57, 58, 59, 60, 61, 62, 63, 64, 65, 66, 67, 68, 69, 70, 71, 72, 73, 74] (by decide +kernel) (by decide +kernel)
set_option maxRecDepth 20000 in
theorem gX8_rain_X8_letsRain : GoodIn wsX8_rain (wsV RX8 115 RX8 yX8_letsRain wsX8_letsRain) := goodIn_app (goodIn_of _ (by decide +kernel)) ggX8_rain_X8_letsRain
set_option maxRecDepth 20000 in
theorem ggX8_rain_X8_ends : GoodIn wsX8_rain wsX8_ends := goodIn_r _ [45, 6, 8, 7, 46, 47, 9, 10, 4, 11, 48, 49, 50, 51, 52, 53, 54, 55, 56, 57, 58, 59, 60, 61, 62, 63, 64, 65, 66, 67, 68, 69, 70, 71, 72, 73, 74] (by decide +kernel) (by decide +kernel)
set_option maxRecDepth 20000 in
theorem gX8_rain_X8_ends : GoodIn wsX8_rain (wsV RX8 102 RX8 yX8_ends wsX8_ends) := goodIn_app (goodIn_of _ (by decide +kernel)) ggX8_rain_X8_ends
theorem dX8_rain_0 : decode cX8_rain 0 = .ok (.aload_n 0, 1) := by decide +kernel
theorem dX8_rain_1 : decode cX8_rain 1 = .ok (.invokevirtual 95, 3) := by decide +kernel
theorem dX8_rain_4 : decode cX8_rain 4 = .ok (.aload_n 0, 1) := by decide +kernel
theorem dX8_rain_5 : decode cX8_rain 5 = .ok (.aload_n 0, 1) := by decide +kernel
theorem dX8_rain_6 : decode cX8_rain 6 = .ok (.iload_n 1, 1) := by decide +kernel
theorem dX8_rain_7 : decode cX8_rain 7 = .ok (.iload_n 2, 1) := by decide +kernel
theorem dX8_rain_8 : decode cX8_rain 8 = .ok (.invokevirtual 115, 3) := by decide +kernel
theorem dX8_rain_11 : decode cX8_rain 11 = .ok (.invokevirtual 102, 3) := by decide +kernel
theorem dX8_rain_14 : decode cX8_rain 14 = .ok (.ireturn, 1) := by decide +kernel
set_option maxRecDepth 20000 in
theorem ggX8_credits_X8_isTown : GoodIn wsX8_credits wsX8_isTown := goodIn_r _ [5, 6, 7, 4, 8] (by decide +kernel) (by decide +kernel)
set_option maxRecDepth 20000 in
theorem gX8_credits_X8_isTown : GoodIn wsX8_credits (va_wsS RX8 84 yX8_isTown wsX8_isTown) := goodIn_app (goodIn_of _ (by decide +kernel)) ggX8_credits_X8_isTown
set_option maxRecDepth 20000 in
theorem ggX8_credits_X8_fail : GoodIn wsX8_credits wsX8_fail := goodIn_r _ [12, 13, 27, 28, 29, 30, 31, 32, 33, 34, 35, 36, 37, 38, 39, 40, 41, 42, 43, 44, 45, 46, 47, 48, 49, 50, 51, 52, 53] (by decide +kernel) (by decide +kernel)
set_option maxRecDepth 20000 in
theorem gX8_credits_X8_fail : GoodIn wsX8_credits (wsV RX8 66 RX8 yX8_fail wsX8_fail) := goodIn_app (goodIn_of _ (by decide +kernel)) ggX8_credits_X8_fail
set_option maxRecDepth 20000 in
theorem ggX8_credits_X8_isIn : GoodIn wsX8_credits wsX8_isIn := goodIn_r _ [8] (by decide +kernel) (by decide +kernel)
set_option maxRecDepth 20000 in
theorem gX8_credits_X8_isIn : GoodIn wsX8_credits (va_wsS RX8 77 yX8_isIn wsX8_isIn) := goodIn_app (goodIn_of _ (by decide +kernel)) ggX8_credits_X8_isIn
set_option maxRecDepth 20000 in
theorem ggX8_credits_X8_at : GoodIn wsX8_credits wsX8_at := goodIn_r _ [16] (by decide +kernel) (by decide +kernel)
set_option maxRecDepth 20000 in
theorem gX8_credits_X8_at : GoodIn wsX8_credits (va_wsS RX8 50 yX8_at wsX8_at) := goodIn_app (goodIn_of _ (by decide +kernel)) ggX8_credits_X8_at
set_option maxRecDepth 20000 in
theorem ggX8_credits_X8_refuses : GoodIn wsX8_credits wsX8_refuses := goodIn_r _ [20, 21, 22, 23, 9, 10, 11, 4, 12, 13, 27, 28, 29, 30, 31, 32, 33, 34, 35, 36, 37, 38, 39, 40, 41, 42, 43, 44, 45, 46, 47, 48, 49, 50, 51, 52, 53] (by decide +kernel) (by decide +kernel)
set_option maxRecDepth 20000 in
theorem gX8_credits_X8_refuses : GoodIn wsX8_credits (wsV RX8 88 RX8 yX8_refuses wsX8_refuses) := goodIn_app (goodIn_of _ (by decide +kernel)) ggX8_credits_X8_refuses
set_option maxRecDepth 20000 in
theorem ggX8_credits_X8_in : GoodIn wsX8_credits wsX8_in := goodIn_r _ [26] (by decide +kernel) (by decide +kernel)
set_option maxRecDepth 20000 in
theorem gX8_credits_X8_in : GoodIn wsX8_credits (va_wsS RX8 118 yX8_in wsX8_in) := goodIn_app (goodIn_of _ (by decide +kernel)) ggX8_credits_X8_in
theorem dX8_credits_0 : decode cX8_credits 0 = .ok (.iload_n 1, 1) := by decide +kernel
theorem dX8_credits_1 : decode cX8_credits 1 = .ok (.invokestatic 84, 3) := by decide +kernel
theorem dX8_credits_4 : decode cX8_credits 4 = .ok (.ifCond .ne 9, 3) := by decide +kernel
theorem dX8_credits_7 : decode cX8_credits 7 = .ok (.aload_n 0, 1) := by decide +kernel
theorem dX8_credits_8 : decode cX8_credits 8 = .ok (.iconst (-1), 1) := by decide +kernel
theorem dX8_credits_9 : decode cX8_credits 9 = .ok (.invokevirtual 66, 3) := by decide +kernel
theorem dX8_credits_12 : decode cX8_credits 12 = .ok (.ireturn, 1) := by decide +kernel
theorem dX8_credits_13 : decode cX8_credits 13 = .ok (.iload_n 2, 1) := by decide +kernel
theorem dX8_credits_14 : decode cX8_credits 14 = .ok (.iconst 1, 1) := by decide +kernel
theorem dX8_credits_15 : decode cX8_credits 15 = .ok (.bipush 20, 2) := by decide +kernel
theorem dX8_credits_17 : decode cX8_credits 17 = .ok (.invokestatic 77, 3) := by decide +kernel
theorem dX8_credits_20 : decode cX8_credits 20 = .ok (.ifCond .eq 13, 3) := by decide +kernel
theorem dX8_credits_23 : decode cX8_credits 23 = .ok (.iload_n 3, 1) := by decide +kernel
theorem dX8_credits_24 : decode cX8_credits 24 = .ok (.iconst 1, 1) := by decide +kernel
theorem dX8_credits_25 : decode cX8_credits 25 = .ok (.bipush 6, 2) := by decide +kernel
theorem dX8_credits_27 : decode cX8_credits 27 = .ok (.invokestatic 77, 3) := by decide +kernel
theorem dX8_credits_30 : decode cX8_credits 30 = .ok (.ifCond .ne 10, 3) := by decide +kernel
theorem dX8_credits_33 : decode cX8_credits 33 = .ok (.aload_n 0, 1) := by decide +kernel
theorem dX8_credits_34 : decode cX8_credits 34 = .ok (.bipush (-2), 2) := by decide +kernel
theorem dX8_credits_36 : decode cX8_credits 36 = .ok (.invokevirtual 66, 3) := by decide +kernel
theorem dX8_credits_39 : decode cX8_credits 39 = .ok (.ireturn, 1) := by decide +kernel
theorem dX8_credits_40 : decode cX8_credits 40 = .ok (.aload_n 0, 1) := by decide +kernel
theorem dX8_credits_41 : decode cX8_credits 41 = .ok (.getfield 13, 3) := by decide +kernel
theorem dX8_credits_44 : decode cX8_credits 44 = .ok (.iconst 1, 1) := by decide +kernel
theorem dX8_credits_45 : decode cX8_credits 45 = .ok (.iaload, 1) := by decide +kernel
theorem dX8_credits_46 : decode cX8_credits 46 = .ok (.istore 4, 2) := by decide +kernel
theorem dX8_credits_48 : decode cX8_credits 48 = .ok (.bipush 60, 2) := by decide +kernel
theorem dX8_credits_50 : decode cX8_credits 50 = .ok (.aload_n 0, 1) := by decide +kernel
theorem dX8_credits_51 : decode cX8_credits 51 = .ok (.getfield 13, 3) := by decide +kernel
theorem dX8_credits_54 : decode cX8_credits 54 = .ok (.iload_n 1, 1) := by decide +kernel
theorem dX8_credits_55 : decode cX8_credits 55 = .ok (.iconst 0, 1) := by decide +kernel
theorem dX8_credits_56 : decode cX8_credits 56 = .ok (.invokestatic 50, 3) := by decide +kernel
theorem dX8_credits_59 : decode cX8_credits 59 = .ok (.iaload, 1) := by decide +kernel
theorem dX8_credits_60 : decode cX8_credits 60 = .ok (.isub, 1) := by decide +kernel
theorem dX8_credits_61 : decode cX8_credits 61 = .ok (.istore 5, 2) := by decide +kernel
theorem dX8_credits_63 : decode cX8_credits 63 = .ok (.aload_n 0, 1) := by decide +kernel
theorem dX8_credits_64 : decode cX8_credits 64 = .ok (.getfield 13, 3) := by decide +kernel
theorem dX8_credits_67 : decode cX8_credits 67 = .ok (.iload_n 1, 1) := by decide +kernel
theorem dX8_credits_68 : decode cX8_credits 68 = .ok (.iconst 3, 1) := by decide +kernel
theorem dX8_credits_69 : decode cX8_credits 69 = .ok (.invokestatic 50, 3) := by decide +kernel
theorem dX8_credits_72 : decode cX8_credits 72 = .ok (.iaload, 1) := by decide +kernel
theorem dX8_credits_73 : decode cX8_credits 73 = .ok (.ifCond .le 19, 3) := by decide +kernel
theorem dX8_credits_76 : decode cX8_credits 76 = .ok (.aload_n 0, 1) := by decide +kernel
theorem dX8_credits_77 : decode cX8_credits 77 = .ok (.iconst 2, 1) := by decide +kernel
theorem dX8_credits_78 : decode cX8_credits 78 = .ok (.aload_n 0, 1) := by decide +kernel
theorem dX8_credits_79 : decode cX8_credits 79 = .ok (.getfield 13, 3) := by decide +kernel
theorem dX8_credits_82 : decode cX8_credits 82 = .ok (.iload_n 1, 1) := by decide +kernel
theorem dX8_credits_83 : decode cX8_credits 83 = .ok (.iconst 3, 1) := by decide +kernel
theorem dX8_credits_84 : decode cX8_credits 84 = .ok (.invokestatic 50, 3) := by decide +kernel
theorem dX8_credits_87 : decode cX8_credits 87 = .ok (.iaload, 1) := by decide +kernel
theorem dX8_credits_88 : decode cX8_credits 88 = .ok (.invokevirtual 88, 3) := by decide +kernel
theorem dX8_credits_91 : decode cX8_credits 91 = .ok (.ireturn, 1) := by decide +kernel
theorem dX8_credits_92 : decode cX8_credits 92 = .ok (.iload 4, 2) := by decide +kernel
theorem dX8_credits_94 : decode cX8_credits 94 = .ok (.bipush 8, 2) := by decide +kernel
theorem dX8_credits_96 : decode cX8_credits 96 = .ok (.if_icmp .ne 11, 3) := by decide +kernel
theorem dX8_credits_99 : decode cX8_credits 99 = .ok (.aload_n 0, 1) := by decide +kernel
theorem dX8_credits_100 : decode cX8_credits 100 = .ok (.iconst 1, 1) := by decide +kernel
theorem dX8_credits_101 : decode cX8_credits 101 = .ok (.bipush 8, 2) := by decide +kernel
theorem dX8_credits_103 : decode cX8_credits 103 = .ok (.invokevirtual 88, 3) := by decide +kernel
theorem dX8_credits_106 : decode cX8_credits 106 = .ok (.ireturn, 1) := by decide +kernel
theorem dX8_credits_107 : decode cX8_credits 107 = .ok (.iload_n 2, 1) := by decide +kernel
theorem dX8_credits_108 : decode cX8_credits 108 = .ok (.iload 5, 2) := by decide +kernel
theorem dX8_credits_110 : decode cX8_credits 110 = .ok (.if_icmp .le 11, 3) := by decide +kernel
theorem dX8_credits_113 : decode cX8_credits 113 = .ok (.aload_n 0, 1) := by decide +kernel
theorem dX8_credits_114 : decode cX8_credits 114 = .ok (.iconst 3, 1) := by decide +kernel
theorem dX8_credits_115 : decode cX8_credits 115 = .ok (.iload 5, 2) := by decide +kernel
theorem dX8_credits_117 : decode cX8_credits 117 = .ok (.invokevirtual 88, 3) := by decide +kernel
theorem dX8_credits_120 : decode cX8_credits 120 = .ok (.ireturn, 1) := by decide +kernel
theorem dX8_credits_121 : decode cX8_credits 121 = .ok (.aload_n 0, 1) := by decide +kernel
theorem dX8_credits_122 : decode cX8_credits 122 = .ok (.getfield 13, 3) := by decide +kernel
theorem dX8_credits_125 : decode cX8_credits 125 = .ok (.iload 4, 2) := by decide +kernel
theorem dX8_credits_127 : decode cX8_credits 127 = .ok (.iconst 0, 1) := by decide +kernel
theorem dX8_credits_128 : decode cX8_credits 128 = .ok (.invokestatic 118, 3) := by decide +kernel
theorem dX8_credits_131 : decode cX8_credits 131 = .ok (.iload_n 1, 1) := by decide +kernel
theorem dX8_credits_132 : decode cX8_credits 132 = .ok (.iastore, 1) := by decide +kernel
theorem dX8_credits_133 : decode cX8_credits 133 = .ok (.aload_n 0, 1) := by decide +kernel
theorem dX8_credits_134 : decode cX8_credits 134 = .ok (.getfield 13, 3) := by decide +kernel
theorem dX8_credits_137 : decode cX8_credits 137 = .ok (.iload 4, 2) := by decide +kernel
theorem dX8_credits_139 : decode cX8_credits 139 = .ok (.iconst 1, 1) := by decide +kernel
theorem dX8_credits_140 : decode cX8_credits 140 = .ok (.invokestatic 118, 3) := by decide +kernel
theorem dX8_credits_143 : decode cX8_credits 143 = .ok (.iload_n 2, 1) := by decide +kernel
theorem dX8_credits_144 : decode cX8_credits 144 = .ok (.iastore, 1) := by decide +kernel
theorem dX8_credits_145 : decode cX8_credits 145 = .ok (.aload_n 0, 1) := by decide +kernel
theorem dX8_credits_146 : decode cX8_credits 146 = .ok (.getfield 13, 3) := by decide +kernel
theorem dX8_credits_149 : decode cX8_credits 149 = .ok (.iload 4, 2) := by decide +kernel
theorem dX8_credits_151 : decode cX8_credits 151 = .ok (.iconst 2, 1) := by decide +kernel
theorem dX8_credits_152 : decode cX8_credits 152 = .ok (.invokestatic 118, 3) := by decide +kernel
theorem dX8_credits_155 : decode cX8_credits 155 = .ok (.aload_n 0, 1) := by decide +kernel
theorem dX8_credits_156 : decode cX8_credits 156 = .ok (.getfield 13, 3) := by decide +kernel
theorem dX8_credits_159 : decode cX8_credits 159 = .ok (.iconst 0, 1) := by decide +kernel
theorem dX8_credits_160 : decode cX8_credits 160 = .ok (.iaload, 1) := by decide +kernel
theorem dX8_credits_161 : decode cX8_credits 161 = .ok (.iload_n 3, 1) := by decide +kernel
theorem dX8_credits_162 : decode cX8_credits 162 = .ok (.iadd, 1) := by decide +kernel
theorem dX8_credits_163 : decode cX8_credits 163 = .ok (.iastore, 1) := by decide +kernel
theorem dX8_credits_164 : decode cX8_credits 164 = .ok (.aload_n 0, 1) := by decide +kernel
theorem dX8_credits_165 : decode cX8_credits 165 = .ok (.getfield 13, 3) := by decide +kernel
theorem dX8_credits_168 : decode cX8_credits 168 = .ok (.iconst 1, 1) := by decide +kernel
theorem dX8_credits_169 : decode cX8_credits 169 = .ok (.dup2, 1) := by decide +kernel
theorem dX8_credits_170 : decode cX8_credits 170 = .ok (.iaload, 1) := by decide +kernel
theorem dX8_credits_171 : decode cX8_credits 171 = .ok (.iconst 1, 1) := by decide +kernel
theorem dX8_credits_172 : decode cX8_credits 172 = .ok (.iadd, 1) := by decide +kernel
theorem dX8_credits_173 : decode cX8_credits 173 = .ok (.iastore, 1) := by decide +kernel
theorem dX8_credits_174 : decode cX8_credits 174 = .ok (.aload_n 0, 1) := by decide +kernel
theorem dX8_credits_175 : decode cX8_credits 175 = .ok (.getfield 13, 3) := by decide +kernel
theorem dX8_credits_178 : decode cX8_credits 178 = .ok (.iload_n 1, 1) := by decide +kernel
theorem dX8_credits_179 : decode cX8_credits 179 = .ok (.iconst 0, 1) := by decide +kernel
theorem dX8_credits_180 : decode cX8_credits 180 = .ok (.invokestatic 50, 3) := by decide +kernel
theorem dX8_credits_183 : decode cX8_credits 183 = .ok (.dup2, 1) := by decide +kernel
theorem dX8_credits_184 : decode cX8_credits 184 = .ok (.iaload, 1) := by decide +kernel
theorem dX8_credits_185 : decode cX8_credits 185 = .ok (.iload_n 2, 1) := by decide +kernel
theorem dX8_credits_186 : decode cX8_credits 186 = .ok (.iadd, 1) := by decide +kernel
theorem dX8_credits_187 : decode cX8_credits 187 = .ok (.iastore, 1) := by decide +kernel
theorem dX8_credits_188 : decode cX8_credits 188 = .ok (.aload_n 0, 1) := by decide +kernel
theorem dX8_credits_189 : decode cX8_credits 189 = .ok (.getfield 13, 3) := by decide +kernel
theorem dX8_credits_192 : decode cX8_credits 192 = .ok (.iconst 2, 1) := by decide +kernel
theorem dX8_credits_193 : decode cX8_credits 193 = .ok (.dup2, 1) := by decide +kernel
theorem dX8_credits_194 : decode cX8_credits 194 = .ok (.iaload, 1) := by decide +kernel
theorem dX8_credits_195 : decode cX8_credits 195 = .ok (.iload_n 2, 1) := by decide +kernel
theorem dX8_credits_196 : decode cX8_credits 196 = .ok (.iadd, 1) := by decide +kernel
theorem dX8_credits_197 : decode cX8_credits 197 = .ok (.iastore, 1) := by decide +kernel
theorem dX8_credits_198 : decode cX8_credits 198 = .ok (.iload 4, 2) := by decide +kernel
theorem dX8_credits_200 : decode cX8_credits 200 = .ok (.ireturn, 1) := by decide +kernel
set_option maxRecDepth 20000 in
theorem ggX8_credit_X8_begins : GoodIn wsX8_credit wsX8_begins := goodIn_r _ [5, 6, 7, 8, 9, 10, 4, 11, 45, 46, 47, 48, 49, 50, 51, 52, 53, 54, 55, 56, 57, 58, 59, 60, 61, 62, 63, 64, 65, 66, 67, 68, 69, 70, 71] (by decide +kernel) (by decide +kernel)
set_option maxRecDepth 20000 in
theorem gX8_credit_X8_begins : GoodIn wsX8_credit (wsV RX8 95 RX8 yX8_begins wsX8_begins) := goodIn_app (goodIn_of _ (by decide +kernel)) ggX8_credit_X8_begins
set_option maxRecDepth 20000 in
theorem ggX8_credit_X8_credits : GoodIn wsX8_credit wsX8_credits := goodIn_r _ [15, 8, 16, 17, 4, 18, 19, 20, 21, 22, 23, 24, 25, 6, 26, 27, 28, 29, 30, 31, 32, 33, 34, 35, 36, 37, 38, 45, 46, 47, 48, 49, 50, 51, 52, 53, 54, 55, 56, 57, 58, 59, 60, 61, 62, 63, 64, 65, 66, 67, 68, 69, 70, 71] (by decide +kernel) (by decide +kernel)
set_option maxRecDepth 20000 in
theorem gX8_credit_X8_credits : GoodIn wsX8_credit (wsV RX8 121 RX8 yX8_credits wsX8_credits) := goodIn_app (goodIn_of _ (by decide +kernel)) ggX8_credit_X8_credits
set_option maxRecDepth 20000 in
theorem ggX8_credit_X8_ends : GoodIn wsX8_credit wsX8_ends := goodIn_r _ [42, 6, 8, 7, 43, 44, 9, 10, 4, 11, 45, 46, 47, 48, 49, 50, 51, 52, 53, 54, 55, 56, 57, 58, 59, 60, 61, 62, 63, 64, 65, 66, 67, 68, 69, 70, 71] (by decide +kernel) (by decide +kernel)
set_option maxRecDepth 20000 in
theorem gX8_credit_X8_ends : GoodIn wsX8_credit (wsV RX8 102 RX8 yX8_ends wsX8_ends) := goodIn_app (goodIn_of _ (by decide +kernel)) ggX8_credit_X8_ends
theorem dX8_credit_0 : decode cX8_credit 0 = .ok (.aload_n 0, 1) := by decide +kernel
theorem dX8_credit_1 : decode cX8_credit 1 = .ok (.invokevirtual 95, 3) := by decide +kernel
theorem dX8_credit_4 : decode cX8_credit 4 = .ok (.aload_n 0, 1) := by decide +kernel
theorem dX8_credit_5 : decode cX8_credit 5 = .ok (.aload_n 0, 1) := by decide +kernel
theorem dX8_credit_6 : decode cX8_credit 6 = .ok (.iload_n 1, 1) := by decide +kernel
theorem dX8_credit_7 : decode cX8_credit 7 = .ok (.iload_n 2, 1) := by decide +kernel
theorem dX8_credit_8 : decode cX8_credit 8 = .ok (.iload_n 3, 1) := by decide +kernel
theorem dX8_credit_9 : decode cX8_credit 9 = .ok (.invokevirtual 121, 3) := by decide +kernel
theorem dX8_credit_12 : decode cX8_credit 12 = .ok (.invokevirtual 102, 3) := by decide +kernel
theorem dX8_credit_15 : decode cX8_credit 15 = .ok (.ireturn, 1) := by decide +kernel
set_option maxRecDepth 20000 in
theorem ggX8_goes_X8_in : GoodIn wsX8_goes wsX8_in := goodIn_r _ [5] (by decide +kernel) (by decide +kernel)
set_option maxRecDepth 20000 in
theorem gX8_goes_X8_in : GoodIn wsX8_goes (va_wsS RX8 118 yX8_in wsX8_in) := goodIn_app (goodIn_of _ (by decide +kernel)) ggX8_goes_X8_in
theorem dX8_goes_0 : decode cX8_goes 0 = .ok (.iload_n 1, 1) := by decide +kernel
theorem dX8_goes_1 : decode cX8_goes 1 = .ok (.iconst 0, 1) := by decide +kernel
theorem dX8_goes_2 : decode cX8_goes 2 = .ok (.invokestatic 118, 3) := by decide +kernel
theorem dX8_goes_5 : decode cX8_goes 5 = .ok (.istore_n 2, 1) := by decide +kernel
theorem dX8_goes_6 : decode cX8_goes 6 = .ok (.iload_n 2, 1) := by decide +kernel
theorem dX8_goes_7 : decode cX8_goes 7 = .ok (.bipush 79, 2) := by decide +kernel
theorem dX8_goes_9 : decode cX8_goes 9 = .ok (.if_icmp .ge 35, 3) := by decide +kernel
theorem dX8_goes_12 : decode cX8_goes 12 = .ok (.aload_n 0, 1) := by decide +kernel
theorem dX8_goes_13 : decode cX8_goes 13 = .ok (.getfield 13, 3) := by decide +kernel
theorem dX8_goes_16 : decode cX8_goes 16 = .ok (.iload_n 2, 1) := by decide +kernel
theorem dX8_goes_17 : decode cX8_goes 17 = .ok (.iload_n 2, 1) := by decide +kernel
theorem dX8_goes_18 : decode cX8_goes 18 = .ok (.iconst 3, 1) := by decide +kernel
theorem dX8_goes_19 : decode cX8_goes 19 = .ok (.iadd, 1) := by decide +kernel
theorem dX8_goes_20 : decode cX8_goes 20 = .ok (.bipush 79, 2) := by decide +kernel
theorem dX8_goes_22 : decode cX8_goes 22 = .ok (.if_icmp .ge 14, 3) := by decide +kernel
theorem dX8_goes_25 : decode cX8_goes 25 = .ok (.aload_n 0, 1) := by decide +kernel
theorem dX8_goes_26 : decode cX8_goes 26 = .ok (.getfield 13, 3) := by decide +kernel
theorem dX8_goes_29 : decode cX8_goes 29 = .ok (.iload_n 2, 1) := by decide +kernel
theorem dX8_goes_30 : decode cX8_goes 30 = .ok (.iconst 3, 1) := by decide +kernel
theorem dX8_goes_31 : decode cX8_goes 31 = .ok (.iadd, 1) := by decide +kernel
theorem dX8_goes_32 : decode cX8_goes 32 = .ok (.iaload, 1) := by decide +kernel
theorem dX8_goes_33 : decode cX8_goes 33 = .ok (.goto 4, 3) := by decide +kernel
theorem dX8_goes_36 : decode cX8_goes 36 = .ok (.iconst 0, 1) := by decide +kernel
theorem dX8_goes_37 : decode cX8_goes 37 = .ok (.iastore, 1) := by decide +kernel
theorem dX8_goes_38 : decode cX8_goes 38 = .ok (.iinc 2 1, 3) := by decide +kernel
theorem dX8_goes_41 : decode cX8_goes 41 = .ok (.goto (-35), 3) := by decide +kernel
theorem dX8_goes_44 : decode cX8_goes 44 = .ok (.aload_n 0, 1) := by decide +kernel
theorem dX8_goes_45 : decode cX8_goes 45 = .ok (.getfield 13, 3) := by decide +kernel
theorem dX8_goes_48 : decode cX8_goes 48 = .ok (.iconst 1, 1) := by decide +kernel
theorem dX8_goes_49 : decode cX8_goes 49 = .ok (.dup2, 1) := by decide +kernel
theorem dX8_goes_50 : decode cX8_goes 50 = .ok (.iaload, 1) := by decide +kernel
theorem dX8_goes_51 : decode cX8_goes 51 = .ok (.iconst 1, 1) := by decide +kernel
theorem dX8_goes_52 : decode cX8_goes 52 = .ok (.isub, 1) := by decide +kernel
theorem dX8_goes_53 : decode cX8_goes 53 = .ok (.iastore, 1) := by decide +kernel
theorem dX8_goes_54 : decode cX8_goes 54 = .ok (.return_, 1) := by decide +kernel
set_option maxRecDepth 20000 in
theorem ggX8_repays_X8_isCredit : GoodIn wsX8_repays wsX8_isCredit := goodIn_r _ [6, 1, 7, 8, 5, 9, 32, 33, 34, 35, 36, 37, 38, 39, 40, 41, 42, 43, 44, 45, 46, 47, 48, 49, 50, 51, 52, 53, 54, 55, 56, 57, 58] (by decide +kernel) (by decide +kernel)
set_option maxRecDepth 20000 in
theorem gX8_repays_X8_isCredit : GoodIn wsX8_repays (wsV RX8 124 RX8 yX8_isCredit wsX8_isCredit) := goodIn_app (goodIn_of _ (by decide +kernel)) ggX8_repays_X8_isCredit
set_option maxRecDepth 20000 in
theorem ggX8_repays_X8_fail : GoodIn wsX8_repays wsX8_fail := goodIn_r _ [13, 14, 32, 33, 34, 35, 36, 37, 38, 39, 40, 41, 42, 43, 44, 45, 46, 47, 48, 49, 50, 51, 52, 53, 54, 55, 56, 57, 58] (by decide +kernel) (by decide +kernel)
set_option maxRecDepth 20000 in
theorem gX8_repays_X8_fail : GoodIn wsX8_repays (wsV RX8 66 RX8 yX8_fail wsX8_fail) := goodIn_app (goodIn_of _ (by decide +kernel)) ggX8_repays_X8_fail
set_option maxRecDepth 20000 in
theorem ggX8_repays_X8_in : GoodIn wsX8_repays wsX8_in := goodIn_r _ [17] (by decide +kernel) (by decide +kernel)
set_option maxRecDepth 20000 in
theorem gX8_repays_X8_in : GoodIn wsX8_repays (va_wsS RX8 118 yX8_in wsX8_in) := goodIn_app (goodIn_of _ (by decide +kernel)) ggX8_repays_X8_in
set_option maxRecDepth 20000 in
theorem ggX8_repays_X8_at : GoodIn wsX8_repays wsX8_at := goodIn_r _ [20] (by decide +kernel) (by decide +kernel)
set_option maxRecDepth 20000 in
theorem gX8_repays_X8_at : GoodIn wsX8_repays (va_wsS RX8 50 yX8_at wsX8_at) := goodIn_app (goodIn_of _ (by decide +kernel)) ggX8_repays_X8_at
set_option maxRecDepth 20000 in
theorem ggX8_repays_X8_refuses : GoodIn wsX8_repays wsX8_refuses := goodIn_r _ [24, 25, 26, 27, 10, 11, 12, 5, 13, 14, 32, 33, 34, 35, 36, 37, 38, 39, 40, 41, 42, 43, 44, 45, 46, 47, 48, 49, 50, 51, 52, 53, 54, 55, 56, 57, 58] (by decide +kernel) (by decide +kernel)
set_option maxRecDepth 20000 in
theorem gX8_repays_X8_refuses : GoodIn wsX8_repays (wsV RX8 88 RX8 yX8_refuses wsX8_refuses) := goodIn_app (goodIn_of _ (by decide +kernel)) ggX8_repays_X8_refuses
set_option maxRecDepth 20000 in
theorem ggX8_repays_X8_goes : GoodIn wsX8_repays wsX8_goes := goodIn_r _ [31, 1, 15, 16, 5, 17, 32, 33, 34, 35, 36, 37, 38, 39, 40, 41, 42, 43, 44, 45, 46, 47, 48, 49, 50, 51, 52, 53, 54, 55, 56, 57, 58] (by decide +kernel) (by decide +kernel)
set_option maxRecDepth 20000 in
theorem gX8_repays_X8_goes : GoodIn wsX8_repays (wsV RX8 127 RX8 yX8_goes wsX8_goes) := goodIn_app (goodIn_of _ (by decide +kernel)) ggX8_repays_X8_goes
theorem dX8_repays_0 : decode cX8_repays 0 = .ok (.aload_n 0, 1) := by decide +kernel
theorem dX8_repays_1 : decode cX8_repays 1 = .ok (.iload_n 1, 1) := by decide +kernel
theorem dX8_repays_2 : decode cX8_repays 2 = .ok (.invokevirtual 124, 3) := by decide +kernel
theorem dX8_repays_5 : decode cX8_repays 5 = .ok (.ifCond .ne 9, 3) := by decide +kernel
theorem dX8_repays_8 : decode cX8_repays 8 = .ok (.aload_n 0, 1) := by decide +kernel
theorem dX8_repays_9 : decode cX8_repays 9 = .ok (.iconst (-1), 1) := by decide +kernel
theorem dX8_repays_10 : decode cX8_repays 10 = .ok (.invokevirtual 66, 3) := by decide +kernel
theorem dX8_repays_13 : decode cX8_repays 13 = .ok (.ireturn, 1) := by decide +kernel
theorem dX8_repays_14 : decode cX8_repays 14 = .ok (.aload_n 0, 1) := by decide +kernel
theorem dX8_repays_15 : decode cX8_repays 15 = .ok (.getfield 13, 3) := by decide +kernel
theorem dX8_repays_18 : decode cX8_repays 18 = .ok (.iload_n 1, 1) := by decide +kernel
theorem dX8_repays_19 : decode cX8_repays 19 = .ok (.iconst 0, 1) := by decide +kernel
theorem dX8_repays_20 : decode cX8_repays 20 = .ok (.invokestatic 118, 3) := by decide +kernel
theorem dX8_repays_23 : decode cX8_repays 23 = .ok (.iaload, 1) := by decide +kernel
theorem dX8_repays_24 : decode cX8_repays 24 = .ok (.istore_n 2, 1) := by decide +kernel
theorem dX8_repays_25 : decode cX8_repays 25 = .ok (.aload_n 0, 1) := by decide +kernel
theorem dX8_repays_26 : decode cX8_repays 26 = .ok (.getfield 13, 3) := by decide +kernel
theorem dX8_repays_29 : decode cX8_repays 29 = .ok (.iload_n 1, 1) := by decide +kernel
theorem dX8_repays_30 : decode cX8_repays 30 = .ok (.iconst 1, 1) := by decide +kernel
theorem dX8_repays_31 : decode cX8_repays 31 = .ok (.invokestatic 118, 3) := by decide +kernel
theorem dX8_repays_34 : decode cX8_repays 34 = .ok (.iaload, 1) := by decide +kernel
theorem dX8_repays_35 : decode cX8_repays 35 = .ok (.istore_n 3, 1) := by decide +kernel
theorem dX8_repays_36 : decode cX8_repays 36 = .ok (.aload_n 0, 1) := by decide +kernel
theorem dX8_repays_37 : decode cX8_repays 37 = .ok (.getfield 13, 3) := by decide +kernel
theorem dX8_repays_40 : decode cX8_repays 40 = .ok (.iload_n 2, 1) := by decide +kernel
theorem dX8_repays_41 : decode cX8_repays 41 = .ok (.iconst 0, 1) := by decide +kernel
theorem dX8_repays_42 : decode cX8_repays 42 = .ok (.invokestatic 50, 3) := by decide +kernel
theorem dX8_repays_45 : decode cX8_repays 45 = .ok (.iaload, 1) := by decide +kernel
theorem dX8_repays_46 : decode cX8_repays 46 = .ok (.iload_n 3, 1) := by decide +kernel
theorem dX8_repays_47 : decode cX8_repays 47 = .ok (.if_icmp .ge 19, 3) := by decide +kernel
theorem dX8_repays_50 : decode cX8_repays 50 = .ok (.aload_n 0, 1) := by decide +kernel
theorem dX8_repays_51 : decode cX8_repays 51 = .ok (.iconst 4, 1) := by decide +kernel
theorem dX8_repays_52 : decode cX8_repays 52 = .ok (.aload_n 0, 1) := by decide +kernel
theorem dX8_repays_53 : decode cX8_repays 53 = .ok (.getfield 13, 3) := by decide +kernel
theorem dX8_repays_56 : decode cX8_repays 56 = .ok (.iload_n 2, 1) := by decide +kernel
theorem dX8_repays_57 : decode cX8_repays 57 = .ok (.iconst 0, 1) := by decide +kernel
theorem dX8_repays_58 : decode cX8_repays 58 = .ok (.invokestatic 50, 3) := by decide +kernel
theorem dX8_repays_61 : decode cX8_repays 61 = .ok (.iaload, 1) := by decide +kernel
theorem dX8_repays_62 : decode cX8_repays 62 = .ok (.invokevirtual 88, 3) := by decide +kernel
theorem dX8_repays_65 : decode cX8_repays 65 = .ok (.ireturn, 1) := by decide +kernel
theorem dX8_repays_66 : decode cX8_repays 66 = .ok (.aload_n 0, 1) := by decide +kernel
theorem dX8_repays_67 : decode cX8_repays 67 = .ok (.getfield 13, 3) := by decide +kernel
theorem dX8_repays_70 : decode cX8_repays 70 = .ok (.iload_n 2, 1) := by decide +kernel
theorem dX8_repays_71 : decode cX8_repays 71 = .ok (.iconst 0, 1) := by decide +kernel
theorem dX8_repays_72 : decode cX8_repays 72 = .ok (.invokestatic 50, 3) := by decide +kernel
theorem dX8_repays_75 : decode cX8_repays 75 = .ok (.dup2, 1) := by decide +kernel
theorem dX8_repays_76 : decode cX8_repays 76 = .ok (.iaload, 1) := by decide +kernel
theorem dX8_repays_77 : decode cX8_repays 77 = .ok (.iload_n 3, 1) := by decide +kernel
theorem dX8_repays_78 : decode cX8_repays 78 = .ok (.isub, 1) := by decide +kernel
theorem dX8_repays_79 : decode cX8_repays 79 = .ok (.iastore, 1) := by decide +kernel
theorem dX8_repays_80 : decode cX8_repays 80 = .ok (.aload_n 0, 1) := by decide +kernel
theorem dX8_repays_81 : decode cX8_repays 81 = .ok (.getfield 13, 3) := by decide +kernel
theorem dX8_repays_84 : decode cX8_repays 84 = .ok (.iconst 3, 1) := by decide +kernel
theorem dX8_repays_85 : decode cX8_repays 85 = .ok (.dup2, 1) := by decide +kernel
theorem dX8_repays_86 : decode cX8_repays 86 = .ok (.iaload, 1) := by decide +kernel
theorem dX8_repays_87 : decode cX8_repays 87 = .ok (.iload_n 3, 1) := by decide +kernel
theorem dX8_repays_88 : decode cX8_repays 88 = .ok (.iadd, 1) := by decide +kernel
theorem dX8_repays_89 : decode cX8_repays 89 = .ok (.iastore, 1) := by decide +kernel
theorem dX8_repays_90 : decode cX8_repays 90 = .ok (.aload_n 0, 1) := by decide +kernel
theorem dX8_repays_91 : decode cX8_repays 91 = .ok (.iload_n 1, 1) := by decide +kernel
theorem dX8_repays_92 : decode cX8_repays 92 = .ok (.invokevirtual 127, 3) := by decide +kernel
theorem dX8_repays_95 : decode cX8_repays 95 = .ok (.aload_n 0, 1) := by decide +kernel
theorem dX8_repays_96 : decode cX8_repays 96 = .ok (.getfield 13, 3) := by decide +kernel
theorem dX8_repays_99 : decode cX8_repays 99 = .ok (.iload_n 2, 1) := by decide +kernel
theorem dX8_repays_100 : decode cX8_repays 100 = .ok (.iconst 0, 1) := by decide +kernel
theorem dX8_repays_101 : decode cX8_repays 101 = .ok (.invokestatic 50, 3) := by decide +kernel
theorem dX8_repays_104 : decode cX8_repays 104 = .ok (.iaload, 1) := by decide +kernel
theorem dX8_repays_105 : decode cX8_repays 105 = .ok (.ireturn, 1) := by decide +kernel
set_option maxRecDepth 20000 in
theorem ggX8_repay_X8_begins : GoodIn wsX8_repay wsX8_begins := goodIn_r _ [5, 6, 7, 8, 9, 10, 4, 11, 50, 51, 52, 53, 54, 55, 56, 57, 58, 59, 60, 61, 62, 63, 64, 65, 66, 67, 68, 69, 70, 71, 72, 73, 74, 75, 76] (by decide +kernel) (by decide +kernel)
set_option maxRecDepth 20000 in
theorem gX8_repay_X8_begins : GoodIn wsX8_repay (wsV RX8 95 RX8 yX8_begins wsX8_begins) := goodIn_app (goodIn_of _ (by decide +kernel)) ggX8_repay_X8_begins
set_option maxRecDepth 20000 in
theorem ggX8_repay_X8_repays : GoodIn wsX8_repay wsX8_repays := goodIn_r _ [15, 8, 16, 17, 18, 4, 19, 20, 21, 22, 23, 24, 25, 26, 6, 27, 28, 29, 30, 31, 32, 33, 34, 35, 36, 37, 38, 39, 40, 41, 42, 43, 50, 51, 52, 53, 54, 55, 56, 57, 58, 59, 60, 61, 62, 63, 64, 65, 66, 67, 68, 69, 70, 71, 72, 73, 74, 75, 76] (by decide +kernel) (by decide +kernel)
set_option maxRecDepth 20000 in
theorem gX8_repay_X8_repays : GoodIn wsX8_repay (wsV RX8 130 RX8 yX8_repays wsX8_repays) := goodIn_app (goodIn_of _ (by decide +kernel)) ggX8_repay_X8_repays
set_option maxRecDepth 20000 in
theorem ggX8_repay_X8_ends : GoodIn wsX8_repay wsX8_ends := goodIn_r _ [47, 6, 8, 7, 48, 49, 9, 10, 4, 11, 50, 51, 52, 53, 54, 55, 56, 57, 58, 59, 60, 61, 62, 63, 64, 65, 66, 67, 68, 69, 70, 71, 72, 73, 74, 75, 76] (by decide +kernel) (by decide +kernel)
set_option maxRecDepth 20000 in
theorem gX8_repay_X8_ends : GoodIn wsX8_repay (wsV RX8 102 RX8 yX8_ends wsX8_ends) := goodIn_app (goodIn_of _ (by decide +kernel)) ggX8_repay_X8_ends
theorem dX8_repay_0 : decode cX8_repay 0 = .ok (.aload_n 0, 1) := by decide +kernel
theorem dX8_repay_1 : decode cX8_repay 1 = .ok (.invokevirtual 95, 3) := by decide +kernel
theorem dX8_repay_4 : decode cX8_repay 4 = .ok (.aload_n 0, 1) := by decide +kernel
theorem dX8_repay_5 : decode cX8_repay 5 = .ok (.aload_n 0, 1) := by decide +kernel
theorem dX8_repay_6 : decode cX8_repay 6 = .ok (.iload_n 1, 1) := by decide +kernel
theorem dX8_repay_7 : decode cX8_repay 7 = .ok (.invokevirtual 130, 3) := by decide +kernel
theorem dX8_repay_10 : decode cX8_repay 10 = .ok (.invokevirtual 102, 3) := by decide +kernel
theorem dX8_repay_13 : decode cX8_repay 13 = .ok (.ireturn, 1) := by decide +kernel
set_option maxRecDepth 20000 in
theorem ggX8_bails_X8_isTown : GoodIn wsX8_bails wsX8_isTown := goodIn_r _ [5, 6, 7, 4, 8] (by decide +kernel) (by decide +kernel)
set_option maxRecDepth 20000 in
theorem gX8_bails_X8_isTown : GoodIn wsX8_bails (va_wsS RX8 84 yX8_isTown wsX8_isTown) := goodIn_app (goodIn_of _ (by decide +kernel)) ggX8_bails_X8_isTown
set_option maxRecDepth 20000 in
theorem ggX8_bails_X8_fail : GoodIn wsX8_bails wsX8_fail := goodIn_r _ [12, 13, 24, 25, 26, 27, 28, 29, 30, 31, 32, 33, 34, 35, 36, 37, 38, 39, 40, 41, 42, 43, 44, 45, 46, 47, 48, 49, 50] (by decide +kernel) (by decide +kernel)
set_option maxRecDepth 20000 in
theorem gX8_bails_X8_fail : GoodIn wsX8_bails (wsV RX8 66 RX8 yX8_fail wsX8_fail) := goodIn_app (goodIn_of _ (by decide +kernel)) ggX8_bails_X8_fail
set_option maxRecDepth 20000 in
theorem ggX8_bails_X8_isIn : GoodIn wsX8_bails wsX8_isIn := goodIn_r _ [8] (by decide +kernel) (by decide +kernel)
set_option maxRecDepth 20000 in
theorem gX8_bails_X8_isIn : GoodIn wsX8_bails (va_wsS RX8 77 yX8_isIn wsX8_isIn) := goodIn_app (goodIn_of _ (by decide +kernel)) ggX8_bails_X8_isIn
set_option maxRecDepth 20000 in
theorem ggX8_bails_X8_at : GoodIn wsX8_bails wsX8_at := goodIn_r _ [16] (by decide +kernel) (by decide +kernel)
set_option maxRecDepth 20000 in
theorem gX8_bails_X8_at : GoodIn wsX8_bails (va_wsS RX8 50 yX8_at wsX8_at) := goodIn_app (goodIn_of _ (by decide +kernel)) ggX8_bails_X8_at
set_option maxRecDepth 20000 in
theorem ggX8_bails_X8_refuses : GoodIn wsX8_bails wsX8_refuses := goodIn_r _ [20, 21, 22, 23, 9, 10, 11, 4, 12, 13, 24, 25, 26, 27, 28, 29, 30, 31, 32, 33, 34, 35, 36, 37, 38, 39, 40, 41, 42, 43, 44, 45, 46, 47, 48, 49, 50] (by decide +kernel) (by decide +kernel)
set_option maxRecDepth 20000 in
theorem gX8_bails_X8_refuses : GoodIn wsX8_bails (wsV RX8 88 RX8 yX8_refuses wsX8_refuses) := goodIn_app (goodIn_of _ (by decide +kernel)) ggX8_bails_X8_refuses
theorem dX8_bails_0 : decode cX8_bails 0 = .ok (.iload_n 1, 1) := by decide +kernel
theorem dX8_bails_1 : decode cX8_bails 1 = .ok (.invokestatic 84, 3) := by decide +kernel
theorem dX8_bails_4 : decode cX8_bails 4 = .ok (.ifCond .ne 9, 3) := by decide +kernel
theorem dX8_bails_7 : decode cX8_bails 7 = .ok (.aload_n 0, 1) := by decide +kernel
theorem dX8_bails_8 : decode cX8_bails 8 = .ok (.iconst (-1), 1) := by decide +kernel
theorem dX8_bails_9 : decode cX8_bails 9 = .ok (.invokevirtual 66, 3) := by decide +kernel
theorem dX8_bails_12 : decode cX8_bails 12 = .ok (.ireturn, 1) := by decide +kernel
theorem dX8_bails_13 : decode cX8_bails 13 = .ok (.iload_n 2, 1) := by decide +kernel
theorem dX8_bails_14 : decode cX8_bails 14 = .ok (.iconst 1, 1) := by decide +kernel
theorem dX8_bails_15 : decode cX8_bails 15 = .ok (.bipush 9, 2) := by decide +kernel
theorem dX8_bails_17 : decode cX8_bails 17 = .ok (.invokestatic 77, 3) := by decide +kernel
theorem dX8_bails_20 : decode cX8_bails 20 = .ok (.ifCond .ne 10, 3) := by decide +kernel
theorem dX8_bails_23 : decode cX8_bails 23 = .ok (.aload_n 0, 1) := by decide +kernel
theorem dX8_bails_24 : decode cX8_bails 24 = .ok (.bipush (-2), 2) := by decide +kernel
theorem dX8_bails_26 : decode cX8_bails 26 = .ok (.invokevirtual 66, 3) := by decide +kernel
theorem dX8_bails_29 : decode cX8_bails 29 = .ok (.ireturn, 1) := by decide +kernel
theorem dX8_bails_30 : decode cX8_bails 30 = .ok (.aload_n 0, 1) := by decide +kernel
theorem dX8_bails_31 : decode cX8_bails 31 = .ok (.getfield 13, 3) := by decide +kernel
theorem dX8_bails_34 : decode cX8_bails 34 = .ok (.iload_n 1, 1) := by decide +kernel
theorem dX8_bails_35 : decode cX8_bails 35 = .ok (.iconst 2, 1) := by decide +kernel
theorem dX8_bails_36 : decode cX8_bails 36 = .ok (.invokestatic 50, 3) := by decide +kernel
theorem dX8_bails_39 : decode cX8_bails 39 = .ok (.iaload, 1) := by decide +kernel
theorem dX8_bails_40 : decode cX8_bails 40 = .ok (.istore_n 3, 1) := by decide +kernel
theorem dX8_bails_41 : decode cX8_bails 41 = .ok (.aload_n 0, 1) := by decide +kernel
theorem dX8_bails_42 : decode cX8_bails 42 = .ok (.getfield 13, 3) := by decide +kernel
theorem dX8_bails_45 : decode cX8_bails 45 = .ok (.iload_n 1, 1) := by decide +kernel
theorem dX8_bails_46 : decode cX8_bails 46 = .ok (.iconst 3, 1) := by decide +kernel
theorem dX8_bails_47 : decode cX8_bails 47 = .ok (.invokestatic 50, 3) := by decide +kernel
theorem dX8_bails_50 : decode cX8_bails 50 = .ok (.iaload, 1) := by decide +kernel
theorem dX8_bails_51 : decode cX8_bails 51 = .ok (.istore 4, 2) := by decide +kernel
theorem dX8_bails_53 : decode cX8_bails 53 = .ok (.iload 4, 2) := by decide +kernel
theorem dX8_bails_55 : decode cX8_bails 55 = .ok (.ifCond .ne 10, 3) := by decide +kernel
theorem dX8_bails_58 : decode cX8_bails 58 = .ok (.aload_n 0, 1) := by decide +kernel
theorem dX8_bails_59 : decode cX8_bails 59 = .ok (.iconst 5, 1) := by decide +kernel
theorem dX8_bails_60 : decode cX8_bails 60 = .ok (.iload_n 3, 1) := by decide +kernel
theorem dX8_bails_61 : decode cX8_bails 61 = .ok (.invokevirtual 88, 3) := by decide +kernel
theorem dX8_bails_64 : decode cX8_bails 64 = .ok (.ireturn, 1) := by decide +kernel
theorem dX8_bails_65 : decode cX8_bails 65 = .ok (.iload_n 3, 1) := by decide +kernel
theorem dX8_bails_66 : decode cX8_bails 66 = .ok (.iload_n 2, 1) := by decide +kernel
theorem dX8_bails_67 : decode cX8_bails 67 = .ok (.if_icmp .ge 11, 3) := by decide +kernel
theorem dX8_bails_70 : decode cX8_bails 70 = .ok (.aload_n 0, 1) := by decide +kernel
theorem dX8_bails_71 : decode cX8_bails 71 = .ok (.bipush 6, 2) := by decide +kernel
theorem dX8_bails_73 : decode cX8_bails 73 = .ok (.iload_n 3, 1) := by decide +kernel
theorem dX8_bails_74 : decode cX8_bails 74 = .ok (.invokevirtual 88, 3) := by decide +kernel
theorem dX8_bails_77 : decode cX8_bails 77 = .ok (.ireturn, 1) := by decide +kernel
theorem dX8_bails_78 : decode cX8_bails 78 = .ok (.aload_n 0, 1) := by decide +kernel
theorem dX8_bails_79 : decode cX8_bails 79 = .ok (.getfield 13, 3) := by decide +kernel
theorem dX8_bails_82 : decode cX8_bails 82 = .ok (.iload_n 1, 1) := by decide +kernel
theorem dX8_bails_83 : decode cX8_bails 83 = .ok (.iconst 2, 1) := by decide +kernel
theorem dX8_bails_84 : decode cX8_bails 84 = .ok (.invokestatic 50, 3) := by decide +kernel
theorem dX8_bails_87 : decode cX8_bails 87 = .ok (.dup2, 1) := by decide +kernel
theorem dX8_bails_88 : decode cX8_bails 88 = .ok (.iaload, 1) := by decide +kernel
theorem dX8_bails_89 : decode cX8_bails 89 = .ok (.iload_n 2, 1) := by decide +kernel
theorem dX8_bails_90 : decode cX8_bails 90 = .ok (.isub, 1) := by decide +kernel
theorem dX8_bails_91 : decode cX8_bails 91 = .ok (.iastore, 1) := by decide +kernel
theorem dX8_bails_92 : decode cX8_bails 92 = .ok (.aload_n 0, 1) := by decide +kernel
theorem dX8_bails_93 : decode cX8_bails 93 = .ok (.getfield 13, 3) := by decide +kernel
theorem dX8_bails_96 : decode cX8_bails 96 = .ok (.iload_n 1, 1) := by decide +kernel
theorem dX8_bails_97 : decode cX8_bails 97 = .ok (.iconst 3, 1) := by decide +kernel
theorem dX8_bails_98 : decode cX8_bails 98 = .ok (.invokestatic 50, 3) := by decide +kernel
theorem dX8_bails_101 : decode cX8_bails 101 = .ok (.iload 4, 2) := by decide +kernel
theorem dX8_bails_103 : decode cX8_bails 103 = .ok (.iconst 3, 1) := by decide +kernel
theorem dX8_bails_104 : decode cX8_bails 104 = .ok (.iload_n 2, 1) := by decide +kernel
theorem dX8_bails_105 : decode cX8_bails 105 = .ok (.imul, 1) := by decide +kernel
theorem dX8_bails_106 : decode cX8_bails 106 = .ok (.if_icmp .le 12, 3) := by decide +kernel
theorem dX8_bails_109 : decode cX8_bails 109 = .ok (.iload 4, 2) := by decide +kernel
theorem dX8_bails_111 : decode cX8_bails 111 = .ok (.iconst 3, 1) := by decide +kernel
theorem dX8_bails_112 : decode cX8_bails 112 = .ok (.iload_n 2, 1) := by decide +kernel
theorem dX8_bails_113 : decode cX8_bails 113 = .ok (.imul, 1) := by decide +kernel
theorem dX8_bails_114 : decode cX8_bails 114 = .ok (.isub, 1) := by decide +kernel
theorem dX8_bails_115 : decode cX8_bails 115 = .ok (.goto 4, 3) := by decide +kernel
theorem dX8_bails_118 : decode cX8_bails 118 = .ok (.iconst 0, 1) := by decide +kernel
theorem dX8_bails_119 : decode cX8_bails 119 = .ok (.iastore, 1) := by decide +kernel
theorem dX8_bails_120 : decode cX8_bails 120 = .ok (.aload_n 0, 1) := by decide +kernel
theorem dX8_bails_121 : decode cX8_bails 121 = .ok (.getfield 13, 3) := by decide +kernel
theorem dX8_bails_124 : decode cX8_bails 124 = .ok (.iload_n 1, 1) := by decide +kernel
theorem dX8_bails_125 : decode cX8_bails 125 = .ok (.iconst 3, 1) := by decide +kernel
theorem dX8_bails_126 : decode cX8_bails 126 = .ok (.invokestatic 50, 3) := by decide +kernel
theorem dX8_bails_129 : decode cX8_bails 129 = .ok (.iaload, 1) := by decide +kernel
theorem dX8_bails_130 : decode cX8_bails 130 = .ok (.ireturn, 1) := by decide +kernel
set_option maxRecDepth 20000 in
theorem ggX8_bail_X8_begins : GoodIn wsX8_bail wsX8_begins := goodIn_r _ [5, 6, 7, 8, 9, 10, 4, 11, 42, 43, 44, 45, 46, 47, 48, 49, 50, 51, 52, 53, 54, 55, 56, 57, 58, 59, 60, 61, 62, 63, 64, 65, 66, 67, 68] (by decide +kernel) (by decide +kernel)
set_option maxRecDepth 20000 in
theorem gX8_bail_X8_begins : GoodIn wsX8_bail (wsV RX8 95 RX8 yX8_begins wsX8_begins) := goodIn_app (goodIn_of _ (by decide +kernel)) ggX8_bail_X8_begins
set_option maxRecDepth 20000 in
theorem ggX8_bail_X8_bails : GoodIn wsX8_bail wsX8_bails := goodIn_r _ [15, 8, 16, 17, 4, 18, 19, 20, 21, 22, 23, 24, 25, 6, 26, 27, 28, 29, 30, 31, 32, 33, 34, 35, 42, 43, 44, 45, 46, 47, 48, 49, 50, 51, 52, 53, 54, 55, 56, 57, 58, 59, 60, 61, 62, 63, 64, 65, 66, 67, 68] (by decide +kernel) (by decide +kernel)
set_option maxRecDepth 20000 in
theorem gX8_bail_X8_bails : GoodIn wsX8_bail (wsV RX8 133 RX8 yX8_bails wsX8_bails) := goodIn_app (goodIn_of _ (by decide +kernel)) ggX8_bail_X8_bails
set_option maxRecDepth 20000 in
theorem ggX8_bail_X8_ends : GoodIn wsX8_bail wsX8_ends := goodIn_r _ [39, 6, 8, 7, 40, 41, 9, 10, 4, 11, 42, 43, 44, 45, 46, 47, 48, 49, 50, 51, 52, 53, 54, 55, 56, 57, 58, 59, 60, 61, 62, 63, 64, 65, 66, 67, 68] (by decide +kernel) (by decide +kernel)
set_option maxRecDepth 20000 in
theorem gX8_bail_X8_ends : GoodIn wsX8_bail (wsV RX8 102 RX8 yX8_ends wsX8_ends) := goodIn_app (goodIn_of _ (by decide +kernel)) ggX8_bail_X8_ends
theorem dX8_bail_0 : decode cX8_bail 0 = .ok (.aload_n 0, 1) := by decide +kernel
theorem dX8_bail_1 : decode cX8_bail 1 = .ok (.invokevirtual 95, 3) := by decide +kernel
theorem dX8_bail_4 : decode cX8_bail 4 = .ok (.aload_n 0, 1) := by decide +kernel
theorem dX8_bail_5 : decode cX8_bail 5 = .ok (.aload_n 0, 1) := by decide +kernel
theorem dX8_bail_6 : decode cX8_bail 6 = .ok (.iload_n 1, 1) := by decide +kernel
theorem dX8_bail_7 : decode cX8_bail 7 = .ok (.iload_n 2, 1) := by decide +kernel
theorem dX8_bail_8 : decode cX8_bail 8 = .ok (.invokevirtual 133, 3) := by decide +kernel
theorem dX8_bail_11 : decode cX8_bail 11 = .ok (.invokevirtual 102, 3) := by decide +kernel
theorem dX8_bail_14 : decode cX8_bail 14 = .ok (.ireturn, 1) := by decide +kernel
set_option maxRecDepth 20000 in
theorem ggX8_buys_X8_isTown : GoodIn wsX8_buys wsX8_isTown := goodIn_r _ [5, 6, 7, 4, 8] (by decide +kernel) (by decide +kernel)
set_option maxRecDepth 20000 in
theorem gX8_buys_X8_isTown : GoodIn wsX8_buys (va_wsS RX8 84 yX8_isTown wsX8_isTown) := goodIn_app (goodIn_of _ (by decide +kernel)) ggX8_buys_X8_isTown
set_option maxRecDepth 20000 in
theorem ggX8_buys_X8_fail : GoodIn wsX8_buys wsX8_fail := goodIn_r _ [12, 13, 24, 25, 26, 27, 28, 29, 30, 31, 32, 33, 34, 35, 36, 37, 38, 39, 40, 41, 42, 43, 44, 45, 46, 47, 48, 49, 50] (by decide +kernel) (by decide +kernel)
set_option maxRecDepth 20000 in
theorem gX8_buys_X8_fail : GoodIn wsX8_buys (wsV RX8 66 RX8 yX8_fail wsX8_fail) := goodIn_app (goodIn_of _ (by decide +kernel)) ggX8_buys_X8_fail
set_option maxRecDepth 20000 in
theorem ggX8_buys_X8_at : GoodIn wsX8_buys wsX8_at := goodIn_r _ [16] (by decide +kernel) (by decide +kernel)
set_option maxRecDepth 20000 in
theorem gX8_buys_X8_at : GoodIn wsX8_buys (va_wsS RX8 50 yX8_at wsX8_at) := goodIn_app (goodIn_of _ (by decide +kernel)) ggX8_buys_X8_at
set_option maxRecDepth 20000 in
theorem ggX8_buys_X8_refuses : GoodIn wsX8_buys wsX8_refuses := goodIn_r _ [20, 21, 22, 23, 9, 10, 11, 4, 12, 13, 24, 25, 26, 27, 28, 29, 30, 31, 32, 33, 34, 35, 36, 37, 38, 39, 40, 41, 42, 43, 44, 45, 46, 47, 48, 49, 50] (by decide +kernel) (by decide +kernel)
set_option maxRecDepth 20000 in
theorem gX8_buys_X8_refuses : GoodIn wsX8_buys (wsV RX8 88 RX8 yX8_refuses wsX8_refuses) := goodIn_app (goodIn_of _ (by decide +kernel)) ggX8_buys_X8_refuses
theorem dX8_buys_0 : decode cX8_buys 0 = .ok (.iload_n 1, 1) := by decide +kernel
theorem dX8_buys_1 : decode cX8_buys 1 = .ok (.invokestatic 84, 3) := by decide +kernel
theorem dX8_buys_4 : decode cX8_buys 4 = .ok (.ifCond .ne 9, 3) := by decide +kernel
theorem dX8_buys_7 : decode cX8_buys 7 = .ok (.aload_n 0, 1) := by decide +kernel
theorem dX8_buys_8 : decode cX8_buys 8 = .ok (.iconst (-1), 1) := by decide +kernel
theorem dX8_buys_9 : decode cX8_buys 9 = .ok (.invokevirtual 66, 3) := by decide +kernel
theorem dX8_buys_12 : decode cX8_buys 12 = .ok (.ireturn, 1) := by decide +kernel
theorem dX8_buys_13 : decode cX8_buys 13 = .ok (.aload_n 0, 1) := by decide +kernel
theorem dX8_buys_14 : decode cX8_buys 14 = .ok (.getfield 13, 3) := by decide +kernel
theorem dX8_buys_17 : decode cX8_buys 17 = .ok (.iload_n 1, 1) := by decide +kernel
theorem dX8_buys_18 : decode cX8_buys 18 = .ok (.iconst 2, 1) := by decide +kernel
theorem dX8_buys_19 : decode cX8_buys 19 = .ok (.invokestatic 50, 3) := by decide +kernel
theorem dX8_buys_22 : decode cX8_buys 22 = .ok (.iaload, 1) := by decide +kernel
theorem dX8_buys_23 : decode cX8_buys 23 = .ok (.bipush 9, 2) := by decide +kernel
theorem dX8_buys_25 : decode cX8_buys 25 = .ok (.if_icmp .ne 11, 3) := by decide +kernel
theorem dX8_buys_28 : decode cX8_buys 28 = .ok (.aload_n 0, 1) := by decide +kernel
theorem dX8_buys_29 : decode cX8_buys 29 = .ok (.iconst 1, 1) := by decide +kernel
theorem dX8_buys_30 : decode cX8_buys 30 = .ok (.bipush 9, 2) := by decide +kernel
theorem dX8_buys_32 : decode cX8_buys 32 = .ok (.invokevirtual 88, 3) := by decide +kernel
theorem dX8_buys_35 : decode cX8_buys 35 = .ok (.ireturn, 1) := by decide +kernel
theorem dX8_buys_36 : decode cX8_buys 36 = .ok (.aload_n 0, 1) := by decide +kernel
theorem dX8_buys_37 : decode cX8_buys 37 = .ok (.getfield 13, 3) := by decide +kernel
theorem dX8_buys_40 : decode cX8_buys 40 = .ok (.iload_n 1, 1) := by decide +kernel
theorem dX8_buys_41 : decode cX8_buys 41 = .ok (.iconst 0, 1) := by decide +kernel
theorem dX8_buys_42 : decode cX8_buys 42 = .ok (.invokestatic 50, 3) := by decide +kernel
theorem dX8_buys_45 : decode cX8_buys 45 = .ok (.iaload, 1) := by decide +kernel
theorem dX8_buys_46 : decode cX8_buys 46 = .ok (.iconst 4, 1) := by decide +kernel
theorem dX8_buys_47 : decode cX8_buys 47 = .ok (.if_icmp .ge 19, 3) := by decide +kernel
theorem dX8_buys_50 : decode cX8_buys 50 = .ok (.aload_n 0, 1) := by decide +kernel
theorem dX8_buys_51 : decode cX8_buys 51 = .ok (.iconst 4, 1) := by decide +kernel
theorem dX8_buys_52 : decode cX8_buys 52 = .ok (.aload_n 0, 1) := by decide +kernel
theorem dX8_buys_53 : decode cX8_buys 53 = .ok (.getfield 13, 3) := by decide +kernel
theorem dX8_buys_56 : decode cX8_buys 56 = .ok (.iload_n 1, 1) := by decide +kernel
theorem dX8_buys_57 : decode cX8_buys 57 = .ok (.iconst 0, 1) := by decide +kernel
theorem dX8_buys_58 : decode cX8_buys 58 = .ok (.invokestatic 50, 3) := by decide +kernel
theorem dX8_buys_61 : decode cX8_buys 61 = .ok (.iaload, 1) := by decide +kernel
theorem dX8_buys_62 : decode cX8_buys 62 = .ok (.invokevirtual 88, 3) := by decide +kernel
theorem dX8_buys_65 : decode cX8_buys 65 = .ok (.ireturn, 1) := by decide +kernel
theorem dX8_buys_66 : decode cX8_buys 66 = .ok (.aload_n 0, 1) := by decide +kernel
theorem dX8_buys_67 : decode cX8_buys 67 = .ok (.getfield 13, 3) := by decide +kernel
theorem dX8_buys_70 : decode cX8_buys 70 = .ok (.iload_n 1, 1) := by decide +kernel
theorem dX8_buys_71 : decode cX8_buys 71 = .ok (.iconst 0, 1) := by decide +kernel
theorem dX8_buys_72 : decode cX8_buys 72 = .ok (.invokestatic 50, 3) := by decide +kernel
theorem dX8_buys_75 : decode cX8_buys 75 = .ok (.dup2, 1) := by decide +kernel
theorem dX8_buys_76 : decode cX8_buys 76 = .ok (.iaload, 1) := by decide +kernel
theorem dX8_buys_77 : decode cX8_buys 77 = .ok (.iconst 4, 1) := by decide +kernel
theorem dX8_buys_78 : decode cX8_buys 78 = .ok (.isub, 1) := by decide +kernel
theorem dX8_buys_79 : decode cX8_buys 79 = .ok (.iastore, 1) := by decide +kernel
theorem dX8_buys_80 : decode cX8_buys 80 = .ok (.aload_n 0, 1) := by decide +kernel
theorem dX8_buys_81 : decode cX8_buys 81 = .ok (.getfield 13, 3) := by decide +kernel
theorem dX8_buys_84 : decode cX8_buys 84 = .ok (.iload_n 1, 1) := by decide +kernel
theorem dX8_buys_85 : decode cX8_buys 85 = .ok (.iconst 2, 1) := by decide +kernel
theorem dX8_buys_86 : decode cX8_buys 86 = .ok (.invokestatic 50, 3) := by decide +kernel
theorem dX8_buys_89 : decode cX8_buys 89 = .ok (.dup2, 1) := by decide +kernel
theorem dX8_buys_90 : decode cX8_buys 90 = .ok (.iaload, 1) := by decide +kernel
theorem dX8_buys_91 : decode cX8_buys 91 = .ok (.iconst 1, 1) := by decide +kernel
theorem dX8_buys_92 : decode cX8_buys 92 = .ok (.iadd, 1) := by decide +kernel
theorem dX8_buys_93 : decode cX8_buys 93 = .ok (.iastore, 1) := by decide +kernel
theorem dX8_buys_94 : decode cX8_buys 94 = .ok (.aload_n 0, 1) := by decide +kernel
theorem dX8_buys_95 : decode cX8_buys 95 = .ok (.getfield 13, 3) := by decide +kernel
theorem dX8_buys_98 : decode cX8_buys 98 = .ok (.bipush 9, 2) := by decide +kernel
theorem dX8_buys_100 : decode cX8_buys 100 = .ok (.dup2, 1) := by decide +kernel
theorem dX8_buys_101 : decode cX8_buys 101 = .ok (.iaload, 1) := by decide +kernel
theorem dX8_buys_102 : decode cX8_buys 102 = .ok (.iconst 1, 1) := by decide +kernel
theorem dX8_buys_103 : decode cX8_buys 103 = .ok (.iadd, 1) := by decide +kernel
theorem dX8_buys_104 : decode cX8_buys 104 = .ok (.iastore, 1) := by decide +kernel
theorem dX8_buys_105 : decode cX8_buys 105 = .ok (.aload_n 0, 1) := by decide +kernel
theorem dX8_buys_106 : decode cX8_buys 106 = .ok (.getfield 13, 3) := by decide +kernel
theorem dX8_buys_109 : decode cX8_buys 109 = .ok (.iload_n 1, 1) := by decide +kernel
theorem dX8_buys_110 : decode cX8_buys 110 = .ok (.iconst 2, 1) := by decide +kernel
theorem dX8_buys_111 : decode cX8_buys 111 = .ok (.invokestatic 50, 3) := by decide +kernel
theorem dX8_buys_114 : decode cX8_buys 114 = .ok (.iaload, 1) := by decide +kernel
theorem dX8_buys_115 : decode cX8_buys 115 = .ok (.ireturn, 1) := by decide +kernel
set_option maxRecDepth 20000 in
theorem ggX8_buy_X8_begins : GoodIn wsX8_buy wsX8_begins := goodIn_r _ [5, 6, 7, 8, 9, 10, 4, 11, 42, 43, 44, 45, 46, 47, 48, 49, 50, 51, 52, 53, 54, 55, 56, 57, 58, 59, 60, 61, 62, 63, 64, 65, 66, 67, 68] (by decide +kernel) (by decide +kernel)
set_option maxRecDepth 20000 in
theorem gX8_buy_X8_begins : GoodIn wsX8_buy (wsV RX8 95 RX8 yX8_begins wsX8_begins) := goodIn_app (goodIn_of _ (by decide +kernel)) ggX8_buy_X8_begins
set_option maxRecDepth 20000 in
theorem ggX8_buy_X8_buys : GoodIn wsX8_buy wsX8_buys := goodIn_r _ [15, 8, 16, 17, 4, 18, 19, 20, 21, 22, 23, 24, 25, 6, 26, 27, 28, 29, 30, 31, 32, 33, 34, 35, 42, 43, 44, 45, 46, 47, 48, 49, 50, 51, 52, 53, 54, 55, 56, 57, 58, 59, 60, 61, 62, 63, 64, 65, 66, 67, 68] (by decide +kernel) (by decide +kernel)
set_option maxRecDepth 20000 in
theorem gX8_buy_X8_buys : GoodIn wsX8_buy (wsV RX8 136 RX8 yX8_buys wsX8_buys) := goodIn_app (goodIn_of _ (by decide +kernel)) ggX8_buy_X8_buys
set_option maxRecDepth 20000 in
theorem ggX8_buy_X8_ends : GoodIn wsX8_buy wsX8_ends := goodIn_r _ [39, 6, 8, 7, 40, 41, 9, 10, 4, 11, 42, 43, 44, 45, 46, 47, 48, 49, 50, 51, 52, 53, 54, 55, 56, 57, 58, 59, 60, 61, 62, 63, 64, 65, 66, 67, 68] (by decide +kernel) (by decide +kernel)
set_option maxRecDepth 20000 in
theorem gX8_buy_X8_ends : GoodIn wsX8_buy (wsV RX8 102 RX8 yX8_ends wsX8_ends) := goodIn_app (goodIn_of _ (by decide +kernel)) ggX8_buy_X8_ends
theorem dX8_buy_0 : decode cX8_buy 0 = .ok (.aload_n 0, 1) := by decide +kernel
theorem dX8_buy_1 : decode cX8_buy 1 = .ok (.invokevirtual 95, 3) := by decide +kernel
theorem dX8_buy_4 : decode cX8_buy 4 = .ok (.aload_n 0, 1) := by decide +kernel
theorem dX8_buy_5 : decode cX8_buy 5 = .ok (.aload_n 0, 1) := by decide +kernel
theorem dX8_buy_6 : decode cX8_buy 6 = .ok (.iload_n 1, 1) := by decide +kernel
theorem dX8_buy_7 : decode cX8_buy 7 = .ok (.invokevirtual 136, 3) := by decide +kernel
theorem dX8_buy_10 : decode cX8_buy 10 = .ok (.invokevirtual 102, 3) := by decide +kernel
theorem dX8_buy_13 : decode cX8_buy 13 = .ok (.ireturn, 1) := by decide +kernel
set_option maxRecDepth 20000 in
theorem ggX8_settles_X8_in : GoodIn wsX8_settles wsX8_in := goodIn_r _ [6] (by decide +kernel) (by decide +kernel)
set_option maxRecDepth 20000 in
theorem gX8_settles_X8_in : GoodIn wsX8_settles (va_wsS RX8 118 yX8_in wsX8_in) := goodIn_app (goodIn_of _ (by decide +kernel)) ggX8_settles_X8_in
set_option maxRecDepth 20000 in
theorem ggX8_settles_X8_at : GoodIn wsX8_settles wsX8_at := goodIn_r _ [9] (by decide +kernel) (by decide +kernel)
set_option maxRecDepth 20000 in
theorem gX8_settles_X8_at : GoodIn wsX8_settles (va_wsS RX8 50 yX8_at wsX8_at) := goodIn_app (goodIn_of _ (by decide +kernel)) ggX8_settles_X8_at
set_option maxRecDepth 20000 in
theorem ggX8_settles_X8_goes : GoodIn wsX8_settles wsX8_goes := goodIn_r _ [13, 1, 3, 4, 5, 6, 27, 28, 29, 30, 31, 32, 33, 34, 35, 36, 37, 38, 39, 40, 41, 42, 43, 44, 45, 46, 47, 48, 49, 50, 51, 52, 53] (by decide +kernel) (by decide +kernel)
set_option maxRecDepth 20000 in
theorem gX8_settles_X8_goes : GoodIn wsX8_settles (wsV RX8 127 RX8 yX8_goes wsX8_goes) := goodIn_app (goodIn_of _ (by decide +kernel)) ggX8_settles_X8_goes
set_option maxRecDepth 20000 in
theorem ggX8_settles_X8_rains : GoodIn wsX8_settles wsX8_rains := goodIn_r _ [17, 1, 18, 19, 20, 5, 21, 22, 23, 24, 25, 26, 7, 8, 9, 27, 28, 29, 30, 31, 32, 33, 34, 35, 36, 37, 38, 39, 40, 41, 42, 43, 44, 45, 46, 47, 48, 49, 50, 51, 52, 53] (by decide +kernel) (by decide +kernel)
set_option maxRecDepth 20000 in
theorem gX8_settles_X8_rains : GoodIn wsX8_settles (wsV RX8 112 RX8 yX8_rains wsX8_rains) := goodIn_app (goodIn_of _ (by decide +kernel)) ggX8_settles_X8_rains
theorem dX8_settles_0 : decode cX8_settles 0 = .ok (.iconst 0, 1) := by decide +kernel
theorem dX8_settles_1 : decode cX8_settles 1 = .ok (.istore_n 1, 1) := by decide +kernel
theorem dX8_settles_2 : decode cX8_settles 2 = .ok (.iconst 0, 1) := by decide +kernel
theorem dX8_settles_3 : decode cX8_settles 3 = .ok (.istore_n 2, 1) := by decide +kernel
theorem dX8_settles_4 : decode cX8_settles 4 = .ok (.iload_n 2, 1) := by decide +kernel
theorem dX8_settles_5 : decode cX8_settles 5 = .ok (.aload_n 0, 1) := by decide +kernel
theorem dX8_settles_6 : decode cX8_settles 6 = .ok (.getfield 13, 3) := by decide +kernel
theorem dX8_settles_9 : decode cX8_settles 9 = .ok (.iconst 1, 1) := by decide +kernel
theorem dX8_settles_10 : decode cX8_settles 10 = .ok (.iaload, 1) := by decide +kernel
theorem dX8_settles_11 : decode cX8_settles 11 = .ok (.if_icmp .ge 213, 3) := by decide +kernel
theorem dX8_settles_14 : decode cX8_settles 14 = .ok (.aload_n 0, 1) := by decide +kernel
theorem dX8_settles_15 : decode cX8_settles 15 = .ok (.getfield 13, 3) := by decide +kernel
theorem dX8_settles_18 : decode cX8_settles 18 = .ok (.iload_n 2, 1) := by decide +kernel
theorem dX8_settles_19 : decode cX8_settles 19 = .ok (.iconst 2, 1) := by decide +kernel
theorem dX8_settles_20 : decode cX8_settles 20 = .ok (.invokestatic 118, 3) := by decide +kernel
theorem dX8_settles_23 : decode cX8_settles 23 = .ok (.iaload, 1) := by decide +kernel
theorem dX8_settles_24 : decode cX8_settles 24 = .ok (.aload_n 0, 1) := by decide +kernel
theorem dX8_settles_25 : decode cX8_settles 25 = .ok (.getfield 13, 3) := by decide +kernel
theorem dX8_settles_28 : decode cX8_settles 28 = .ok (.iconst 0, 1) := by decide +kernel
theorem dX8_settles_29 : decode cX8_settles 29 = .ok (.iaload, 1) := by decide +kernel
theorem dX8_settles_30 : decode cX8_settles 30 = .ok (.if_icmp .eq 9, 3) := by decide +kernel
theorem dX8_settles_33 : decode cX8_settles 33 = .ok (.iinc 2 1, 3) := by decide +kernel
theorem dX8_settles_36 : decode cX8_settles 36 = .ok (.goto (-32), 3) := by decide +kernel
theorem dX8_settles_39 : decode cX8_settles 39 = .ok (.aload_n 0, 1) := by decide +kernel
theorem dX8_settles_40 : decode cX8_settles 40 = .ok (.getfield 13, 3) := by decide +kernel
theorem dX8_settles_43 : decode cX8_settles 43 = .ok (.iload_n 2, 1) := by decide +kernel
theorem dX8_settles_44 : decode cX8_settles 44 = .ok (.iconst 0, 1) := by decide +kernel
theorem dX8_settles_45 : decode cX8_settles 45 = .ok (.invokestatic 118, 3) := by decide +kernel
theorem dX8_settles_48 : decode cX8_settles 48 = .ok (.iaload, 1) := by decide +kernel
theorem dX8_settles_49 : decode cX8_settles 49 = .ok (.istore_n 3, 1) := by decide +kernel
theorem dX8_settles_50 : decode cX8_settles 50 = .ok (.aload_n 0, 1) := by decide +kernel
theorem dX8_settles_51 : decode cX8_settles 51 = .ok (.getfield 13, 3) := by decide +kernel
theorem dX8_settles_54 : decode cX8_settles 54 = .ok (.iload_n 2, 1) := by decide +kernel
theorem dX8_settles_55 : decode cX8_settles 55 = .ok (.iconst 1, 1) := by decide +kernel
theorem dX8_settles_56 : decode cX8_settles 56 = .ok (.invokestatic 118, 3) := by decide +kernel
theorem dX8_settles_59 : decode cX8_settles 59 = .ok (.iaload, 1) := by decide +kernel
theorem dX8_settles_60 : decode cX8_settles 60 = .ok (.istore 4, 2) := by decide +kernel
theorem dX8_settles_62 : decode cX8_settles 62 = .ok (.aload_n 0, 1) := by decide +kernel
theorem dX8_settles_63 : decode cX8_settles 63 = .ok (.getfield 13, 3) := by decide +kernel
theorem dX8_settles_66 : decode cX8_settles 66 = .ok (.iload_n 3, 1) := by decide +kernel
theorem dX8_settles_67 : decode cX8_settles 67 = .ok (.iconst 0, 1) := by decide +kernel
theorem dX8_settles_68 : decode cX8_settles 68 = .ok (.invokestatic 50, 3) := by decide +kernel
theorem dX8_settles_71 : decode cX8_settles 71 = .ok (.iaload, 1) := by decide +kernel
theorem dX8_settles_72 : decode cX8_settles 72 = .ok (.istore 5, 2) := by decide +kernel
theorem dX8_settles_74 : decode cX8_settles 74 = .ok (.iload 5, 2) := by decide +kernel
theorem dX8_settles_76 : decode cX8_settles 76 = .ok (.iload 4, 2) := by decide +kernel
theorem dX8_settles_78 : decode cX8_settles 78 = .ok (.if_icmp .ge 8, 3) := by decide +kernel
theorem dX8_settles_81 : decode cX8_settles 81 = .ok (.iload 5, 2) := by decide +kernel
theorem dX8_settles_83 : decode cX8_settles 83 = .ok (.goto 5, 3) := by decide +kernel
theorem dX8_settles_86 : decode cX8_settles 86 = .ok (.iload 4, 2) := by decide +kernel
theorem dX8_settles_88 : decode cX8_settles 88 = .ok (.istore 6, 2) := by decide +kernel
theorem dX8_settles_90 : decode cX8_settles 90 = .ok (.aload_n 0, 1) := by decide +kernel
theorem dX8_settles_91 : decode cX8_settles 91 = .ok (.iload_n 2, 1) := by decide +kernel
theorem dX8_settles_92 : decode cX8_settles 92 = .ok (.invokevirtual 127, 3) := by decide +kernel
theorem dX8_settles_95 : decode cX8_settles 95 = .ok (.aload_n 0, 1) := by decide +kernel
theorem dX8_settles_96 : decode cX8_settles 96 = .ok (.getfield 13, 3) := by decide +kernel
theorem dX8_settles_99 : decode cX8_settles 99 = .ok (.iload_n 3, 1) := by decide +kernel
theorem dX8_settles_100 : decode cX8_settles 100 = .ok (.iconst 0, 1) := by decide +kernel
theorem dX8_settles_101 : decode cX8_settles 101 = .ok (.invokestatic 50, 3) := by decide +kernel
theorem dX8_settles_104 : decode cX8_settles 104 = .ok (.dup2, 1) := by decide +kernel
theorem dX8_settles_105 : decode cX8_settles 105 = .ok (.iaload, 1) := by decide +kernel
theorem dX8_settles_106 : decode cX8_settles 106 = .ok (.iload 6, 2) := by decide +kernel
theorem dX8_settles_108 : decode cX8_settles 108 = .ok (.isub, 1) := by decide +kernel
theorem dX8_settles_109 : decode cX8_settles 109 = .ok (.iastore, 1) := by decide +kernel
theorem dX8_settles_110 : decode cX8_settles 110 = .ok (.aload_n 0, 1) := by decide +kernel
theorem dX8_settles_111 : decode cX8_settles 111 = .ok (.getfield 13, 3) := by decide +kernel
theorem dX8_settles_114 : decode cX8_settles 114 = .ok (.iconst 3, 1) := by decide +kernel
theorem dX8_settles_115 : decode cX8_settles 115 = .ok (.dup2, 1) := by decide +kernel
theorem dX8_settles_116 : decode cX8_settles 116 = .ok (.iaload, 1) := by decide +kernel
theorem dX8_settles_117 : decode cX8_settles 117 = .ok (.iload 6, 2) := by decide +kernel
theorem dX8_settles_119 : decode cX8_settles 119 = .ok (.iadd, 1) := by decide +kernel
theorem dX8_settles_120 : decode cX8_settles 120 = .ok (.iastore, 1) := by decide +kernel
theorem dX8_settles_121 : decode cX8_settles 121 = .ok (.aload_n 0, 1) := by decide +kernel
theorem dX8_settles_122 : decode cX8_settles 122 = .ok (.getfield 13, 3) := by decide +kernel
theorem dX8_settles_125 : decode cX8_settles 125 = .ok (.bipush 7, 2) := by decide +kernel
theorem dX8_settles_127 : decode cX8_settles 127 = .ok (.dup2, 1) := by decide +kernel
theorem dX8_settles_128 : decode cX8_settles 128 = .ok (.iaload, 1) := by decide +kernel
theorem dX8_settles_129 : decode cX8_settles 129 = .ok (.iconst 1, 1) := by decide +kernel
theorem dX8_settles_130 : decode cX8_settles 130 = .ok (.iadd, 1) := by decide +kernel
theorem dX8_settles_131 : decode cX8_settles 131 = .ok (.iastore, 1) := by decide +kernel
theorem dX8_settles_132 : decode cX8_settles 132 = .ok (.aload_n 0, 1) := by decide +kernel
theorem dX8_settles_133 : decode cX8_settles 133 = .ok (.iload 6, 2) := by decide +kernel
theorem dX8_settles_135 : decode cX8_settles 135 = .ok (.iload 4, 2) := by decide +kernel
theorem dX8_settles_137 : decode cX8_settles 137 = .ok (.if_icmp .ne 7, 3) := by decide +kernel
theorem dX8_settles_140 : decode cX8_settles 140 = .ok (.iconst 1, 1) := by decide +kernel
theorem dX8_settles_141 : decode cX8_settles 141 = .ok (.goto 4, 3) := by decide +kernel
theorem dX8_settles_144 : decode cX8_settles 144 = .ok (.iconst 0, 1) := by decide +kernel
theorem dX8_settles_145 : decode cX8_settles 145 = .ok (.putfield 139, 3) := by decide +kernel
theorem dX8_settles_148 : decode cX8_settles 148 = .ok (.aload_n 0, 1) := by decide +kernel
theorem dX8_settles_149 : decode cX8_settles 149 = .ok (.getfield 139, 3) := by decide +kernel
theorem dX8_settles_152 : decode cX8_settles 152 = .ok (.ifCond .eq 17, 3) := by decide +kernel
theorem dX8_settles_155 : decode cX8_settles 155 = .ok (.aload_n 0, 1) := by decide +kernel
theorem dX8_settles_156 : decode cX8_settles 156 = .ok (.getfield 13, 3) := by decide +kernel
theorem dX8_settles_159 : decode cX8_settles 159 = .ok (.bipush 8, 2) := by decide +kernel
theorem dX8_settles_161 : decode cX8_settles 161 = .ok (.dup2, 1) := by decide +kernel
theorem dX8_settles_162 : decode cX8_settles 162 = .ok (.iaload, 1) := by decide +kernel
theorem dX8_settles_163 : decode cX8_settles 163 = .ok (.iconst 1, 1) := by decide +kernel
theorem dX8_settles_164 : decode cX8_settles 164 = .ok (.iadd, 1) := by decide +kernel
theorem dX8_settles_165 : decode cX8_settles 165 = .ok (.iastore, 1) := by decide +kernel
theorem dX8_settles_166 : decode cX8_settles 166 = .ok (.goto (-162), 3) := by decide +kernel
theorem dX8_settles_169 : decode cX8_settles 169 = .ok (.aload_n 0, 1) := by decide +kernel
theorem dX8_settles_170 : decode cX8_settles 170 = .ok (.getfield 13, 3) := by decide +kernel
theorem dX8_settles_173 : decode cX8_settles 173 = .ok (.iload_n 3, 1) := by decide +kernel
theorem dX8_settles_174 : decode cX8_settles 174 = .ok (.iconst 3, 1) := by decide +kernel
theorem dX8_settles_175 : decode cX8_settles 175 = .ok (.invokestatic 50, 3) := by decide +kernel
theorem dX8_settles_178 : decode cX8_settles 178 = .ok (.dup2, 1) := by decide +kernel
theorem dX8_settles_179 : decode cX8_settles 179 = .ok (.iaload, 1) := by decide +kernel
theorem dX8_settles_180 : decode cX8_settles 180 = .ok (.iload 4, 2) := by decide +kernel
theorem dX8_settles_182 : decode cX8_settles 182 = .ok (.iload 6, 2) := by decide +kernel
theorem dX8_settles_184 : decode cX8_settles 184 = .ok (.isub, 1) := by decide +kernel
theorem dX8_settles_185 : decode cX8_settles 185 = .ok (.iadd, 1) := by decide +kernel
theorem dX8_settles_186 : decode cX8_settles 186 = .ok (.iastore, 1) := by decide +kernel
theorem dX8_settles_187 : decode cX8_settles 187 = .ok (.aload_n 0, 1) := by decide +kernel
theorem dX8_settles_188 : decode cX8_settles 188 = .ok (.getfield 13, 3) := by decide +kernel
theorem dX8_settles_191 : decode cX8_settles 191 = .ok (.bipush 6, 2) := by decide +kernel
theorem dX8_settles_193 : decode cX8_settles 193 = .ok (.dup2, 1) := by decide +kernel
theorem dX8_settles_194 : decode cX8_settles 194 = .ok (.iaload, 1) := by decide +kernel
theorem dX8_settles_195 : decode cX8_settles 195 = .ok (.iconst 2, 1) := by decide +kernel
theorem dX8_settles_196 : decode cX8_settles 196 = .ok (.iload 4, 2) := by decide +kernel
theorem dX8_settles_198 : decode cX8_settles 198 = .ok (.iload 6, 2) := by decide +kernel
theorem dX8_settles_200 : decode cX8_settles 200 = .ok (.isub, 1) := by decide +kernel
theorem dX8_settles_201 : decode cX8_settles 201 = .ok (.imul, 1) := by decide +kernel
theorem dX8_settles_202 : decode cX8_settles 202 = .ok (.iadd, 1) := by decide +kernel
theorem dX8_settles_203 : decode cX8_settles 203 = .ok (.iastore, 1) := by decide +kernel
theorem dX8_settles_204 : decode cX8_settles 204 = .ok (.aload_n 0, 1) := by decide +kernel
theorem dX8_settles_205 : decode cX8_settles 205 = .ok (.iload_n 3, 1) := by decide +kernel
theorem dX8_settles_206 : decode cX8_settles 206 = .ok (.iconst 2, 1) := by decide +kernel
theorem dX8_settles_207 : decode cX8_settles 207 = .ok (.iload 4, 2) := by decide +kernel
theorem dX8_settles_209 : decode cX8_settles 209 = .ok (.iload 6, 2) := by decide +kernel
theorem dX8_settles_211 : decode cX8_settles 211 = .ok (.isub, 1) := by decide +kernel
theorem dX8_settles_212 : decode cX8_settles 212 = .ok (.imul, 1) := by decide +kernel
theorem dX8_settles_213 : decode cX8_settles 213 = .ok (.invokevirtual 112, 3) := by decide +kernel
theorem dX8_settles_216 : decode cX8_settles 216 = .ok (.istore 7, 2) := by decide +kernel
theorem dX8_settles_218 : decode cX8_settles 218 = .ok (.iinc 1 1, 3) := by decide +kernel
theorem dX8_settles_221 : decode cX8_settles 221 = .ok (.goto (-217), 3) := by decide +kernel
theorem dX8_settles_224 : decode cX8_settles 224 = .ok (.iload_n 1, 1) := by decide +kernel
theorem dX8_settles_225 : decode cX8_settles 225 = .ok (.ireturn, 1) := by decide +kernel
set_option maxRecDepth 20000 in
theorem ggX8_hails_X8_at : GoodIn wsX8_hails wsX8_at := goodIn_r _ [5] (by decide +kernel) (by decide +kernel)
set_option maxRecDepth 20000 in
theorem gX8_hails_X8_at : GoodIn wsX8_hails (va_wsS RX8 50 yX8_at wsX8_at) := goodIn_app (goodIn_of _ (by decide +kernel)) ggX8_hails_X8_at
theorem dX8_hails_0 : decode cX8_hails 0 = .ok (.aload_n 0, 1) := by decide +kernel
theorem dX8_hails_1 : decode cX8_hails 1 = .ok (.getfield 13, 3) := by decide +kernel
theorem dX8_hails_4 : decode cX8_hails 4 = .ok (.iload_n 1, 1) := by decide +kernel
theorem dX8_hails_5 : decode cX8_hails 5 = .ok (.iconst 3, 1) := by decide +kernel
theorem dX8_hails_6 : decode cX8_hails 6 = .ok (.invokestatic 50, 3) := by decide +kernel
theorem dX8_hails_9 : decode cX8_hails 9 = .ok (.iaload, 1) := by decide +kernel
theorem dX8_hails_10 : decode cX8_hails 10 = .ok (.ifCond .ne 4, 3) := by decide +kernel
theorem dX8_hails_13 : decode cX8_hails 13 = .ok (.return_, 1) := by decide +kernel
theorem dX8_hails_14 : decode cX8_hails 14 = .ok (.aload_n 0, 1) := by decide +kernel
theorem dX8_hails_15 : decode cX8_hails 15 = .ok (.getfield 13, 3) := by decide +kernel
theorem dX8_hails_18 : decode cX8_hails 18 = .ok (.iload_n 1, 1) := by decide +kernel
theorem dX8_hails_19 : decode cX8_hails 19 = .ok (.iconst 3, 1) := by decide +kernel
theorem dX8_hails_20 : decode cX8_hails 20 = .ok (.invokestatic 50, 3) := by decide +kernel
theorem dX8_hails_23 : decode cX8_hails 23 = .ok (.iaload, 1) := by decide +kernel
theorem dX8_hails_24 : decode cX8_hails 24 = .ok (.iconst 4, 1) := by decide +kernel
theorem dX8_hails_25 : decode cX8_hails 25 = .ok (.iadd, 1) := by decide +kernel
theorem dX8_hails_26 : decode cX8_hails 26 = .ok (.iconst 5, 1) := by decide +kernel
theorem dX8_hails_27 : decode cX8_hails 27 = .ok (.idiv, 1) := by decide +kernel
theorem dX8_hails_28 : decode cX8_hails 28 = .ok (.istore_n 2, 1) := by decide +kernel
theorem dX8_hails_29 : decode cX8_hails 29 = .ok (.iload_n 2, 1) := by decide +kernel
theorem dX8_hails_30 : decode cX8_hails 30 = .ok (.ifCond .le 86, 3) := by decide +kernel
theorem dX8_hails_33 : decode cX8_hails 33 = .ok (.aload_n 0, 1) := by decide +kernel
theorem dX8_hails_34 : decode cX8_hails 34 = .ok (.getfield 13, 3) := by decide +kernel
theorem dX8_hails_37 : decode cX8_hails 37 = .ok (.iload_n 1, 1) := by decide +kernel
theorem dX8_hails_38 : decode cX8_hails 38 = .ok (.iconst 2, 1) := by decide +kernel
theorem dX8_hails_39 : decode cX8_hails 39 = .ok (.invokestatic 50, 3) := by decide +kernel
theorem dX8_hails_42 : decode cX8_hails 42 = .ok (.iaload, 1) := by decide +kernel
theorem dX8_hails_43 : decode cX8_hails 43 = .ok (.ifCond .le 30, 3) := by decide +kernel
theorem dX8_hails_46 : decode cX8_hails 46 = .ok (.aload_n 0, 1) := by decide +kernel
theorem dX8_hails_47 : decode cX8_hails 47 = .ok (.getfield 13, 3) := by decide +kernel
theorem dX8_hails_50 : decode cX8_hails 50 = .ok (.iload_n 1, 1) := by decide +kernel
theorem dX8_hails_51 : decode cX8_hails 51 = .ok (.iconst 2, 1) := by decide +kernel
theorem dX8_hails_52 : decode cX8_hails 52 = .ok (.invokestatic 50, 3) := by decide +kernel
theorem dX8_hails_55 : decode cX8_hails 55 = .ok (.dup2, 1) := by decide +kernel
theorem dX8_hails_56 : decode cX8_hails 56 = .ok (.iaload, 1) := by decide +kernel
theorem dX8_hails_57 : decode cX8_hails 57 = .ok (.iconst 1, 1) := by decide +kernel
theorem dX8_hails_58 : decode cX8_hails 58 = .ok (.isub, 1) := by decide +kernel
theorem dX8_hails_59 : decode cX8_hails 59 = .ok (.iastore, 1) := by decide +kernel
theorem dX8_hails_60 : decode cX8_hails 60 = .ok (.aload_n 0, 1) := by decide +kernel
theorem dX8_hails_61 : decode cX8_hails 61 = .ok (.getfield 13, 3) := by decide +kernel
theorem dX8_hails_64 : decode cX8_hails 64 = .ok (.iconst 5, 1) := by decide +kernel
theorem dX8_hails_65 : decode cX8_hails 65 = .ok (.dup2, 1) := by decide +kernel
theorem dX8_hails_66 : decode cX8_hails 66 = .ok (.iaload, 1) := by decide +kernel
theorem dX8_hails_67 : decode cX8_hails 67 = .ok (.iconst 1, 1) := by decide +kernel
theorem dX8_hails_68 : decode cX8_hails 68 = .ok (.iadd, 1) := by decide +kernel
theorem dX8_hails_69 : decode cX8_hails 69 = .ok (.iastore, 1) := by decide +kernel
theorem dX8_hails_70 : decode cX8_hails 70 = .ok (.goto 40, 3) := by decide +kernel
theorem dX8_hails_73 : decode cX8_hails 73 = .ok (.aload_n 0, 1) := by decide +kernel
theorem dX8_hails_74 : decode cX8_hails 74 = .ok (.getfield 13, 3) := by decide +kernel
theorem dX8_hails_77 : decode cX8_hails 77 = .ok (.iload_n 1, 1) := by decide +kernel
theorem dX8_hails_78 : decode cX8_hails 78 = .ok (.iconst 0, 1) := by decide +kernel
theorem dX8_hails_79 : decode cX8_hails 79 = .ok (.invokestatic 50, 3) := by decide +kernel
theorem dX8_hails_82 : decode cX8_hails 82 = .ok (.iaload, 1) := by decide +kernel
theorem dX8_hails_83 : decode cX8_hails 83 = .ok (.ifCond .le 27, 3) := by decide +kernel
theorem dX8_hails_86 : decode cX8_hails 86 = .ok (.aload_n 0, 1) := by decide +kernel
theorem dX8_hails_87 : decode cX8_hails 87 = .ok (.getfield 13, 3) := by decide +kernel
theorem dX8_hails_90 : decode cX8_hails 90 = .ok (.iload_n 1, 1) := by decide +kernel
theorem dX8_hails_91 : decode cX8_hails 91 = .ok (.iconst 0, 1) := by decide +kernel
theorem dX8_hails_92 : decode cX8_hails 92 = .ok (.invokestatic 50, 3) := by decide +kernel
theorem dX8_hails_95 : decode cX8_hails 95 = .ok (.dup2, 1) := by decide +kernel
theorem dX8_hails_96 : decode cX8_hails 96 = .ok (.iaload, 1) := by decide +kernel
theorem dX8_hails_97 : decode cX8_hails 97 = .ok (.iconst 1, 1) := by decide +kernel
theorem dX8_hails_98 : decode cX8_hails 98 = .ok (.isub, 1) := by decide +kernel
theorem dX8_hails_99 : decode cX8_hails 99 = .ok (.iastore, 1) := by decide +kernel
theorem dX8_hails_100 : decode cX8_hails 100 = .ok (.aload_n 0, 1) := by decide +kernel
theorem dX8_hails_101 : decode cX8_hails 101 = .ok (.getfield 13, 3) := by decide +kernel
theorem dX8_hails_104 : decode cX8_hails 104 = .ok (.iconst 4, 1) := by decide +kernel
theorem dX8_hails_105 : decode cX8_hails 105 = .ok (.dup2, 1) := by decide +kernel
theorem dX8_hails_106 : decode cX8_hails 106 = .ok (.iaload, 1) := by decide +kernel
theorem dX8_hails_107 : decode cX8_hails 107 = .ok (.iconst 1, 1) := by decide +kernel
theorem dX8_hails_108 : decode cX8_hails 108 = .ok (.iadd, 1) := by decide +kernel
theorem dX8_hails_109 : decode cX8_hails 109 = .ok (.iastore, 1) := by decide +kernel
theorem dX8_hails_110 : decode cX8_hails 110 = .ok (.iinc 2 (-1), 3) := by decide +kernel
theorem dX8_hails_113 : decode cX8_hails 113 = .ok (.goto (-84), 3) := by decide +kernel
theorem dX8_hails_116 : decode cX8_hails 116 = .ok (.aload_n 0, 1) := by decide +kernel
theorem dX8_hails_117 : decode cX8_hails 117 = .ok (.getfield 13, 3) := by decide +kernel
theorem dX8_hails_120 : decode cX8_hails 120 = .ok (.iload_n 1, 1) := by decide +kernel
theorem dX8_hails_121 : decode cX8_hails 121 = .ok (.iconst 3, 1) := by decide +kernel
theorem dX8_hails_122 : decode cX8_hails 122 = .ok (.invokestatic 50, 3) := by decide +kernel
theorem dX8_hails_125 : decode cX8_hails 125 = .ok (.dup2, 1) := by decide +kernel
theorem dX8_hails_126 : decode cX8_hails 126 = .ok (.iaload, 1) := by decide +kernel
theorem dX8_hails_127 : decode cX8_hails 127 = .ok (.iconst 1, 1) := by decide +kernel
theorem dX8_hails_128 : decode cX8_hails 128 = .ok (.isub, 1) := by decide +kernel
theorem dX8_hails_129 : decode cX8_hails 129 = .ok (.iastore, 1) := by decide +kernel
theorem dX8_hails_130 : decode cX8_hails 130 = .ok (.return_, 1) := by decide +kernel
set_option maxRecDepth 20000 in
theorem ggX8_months_X8_settles : GoodIn wsX8_months wsX8_settles := goodIn_r _ [7, 1, 8, 9, 10, 6, 11, 12, 13, 14, 15, 16, 17, 18, 19, 20, 21, 22, 23, 24, 25, 26, 27, 28, 29, 30, 31, 36, 37, 38, 39, 40, 41, 42, 43, 44, 45, 46, 47, 48, 49, 50, 51, 52, 53, 54, 55, 56, 57, 58, 59, 60, 61, 62] (by decide +kernel) (by decide +kernel)
set_option maxRecDepth 20000 in
theorem gX8_months_X8_settles : GoodIn wsX8_months (wsV RX8 143 RX8 yX8_settles wsX8_settles) := goodIn_app (goodIn_of _ (by decide +kernel)) ggX8_months_X8_settles
set_option maxRecDepth 20000 in
theorem ggX8_months_X8_hails : GoodIn wsX8_months wsX8_hails := goodIn_r _ [35, 1, 12, 13, 6, 14, 36, 37, 38, 39, 40, 41, 42, 43, 44, 45, 46, 47, 48, 49, 50, 51, 52, 53, 54, 55, 56, 57, 58, 59, 60, 61, 62] (by decide +kernel) (by decide +kernel)
set_option maxRecDepth 20000 in
theorem gX8_months_X8_hails : GoodIn wsX8_months (wsV RX8 146 RX8 yX8_hails wsX8_hails) := goodIn_app (goodIn_of _ (by decide +kernel)) ggX8_months_X8_hails
set_option maxRecDepth 20000 in
theorem ggX8_months_X8_at : GoodIn wsX8_months wsX8_at := goodIn_r _ [14] (by decide +kernel) (by decide +kernel)
set_option maxRecDepth 20000 in
theorem gX8_months_X8_at : GoodIn wsX8_months (va_wsS RX8 50 yX8_at wsX8_at) := goodIn_app (goodIn_of _ (by decide +kernel)) ggX8_months_X8_at
theorem dX8_months_0 : decode cX8_months 0 = .ok (.aload_n 0, 1) := by decide +kernel
theorem dX8_months_1 : decode cX8_months 1 = .ok (.getfield 13, 3) := by decide +kernel
theorem dX8_months_4 : decode cX8_months 4 = .ok (.iconst 0, 1) := by decide +kernel
theorem dX8_months_5 : decode cX8_months 5 = .ok (.dup2, 1) := by decide +kernel
theorem dX8_months_6 : decode cX8_months 6 = .ok (.iaload, 1) := by decide +kernel
theorem dX8_months_7 : decode cX8_months 7 = .ok (.iconst 1, 1) := by decide +kernel
theorem dX8_months_8 : decode cX8_months 8 = .ok (.iadd, 1) := by decide +kernel
theorem dX8_months_9 : decode cX8_months 9 = .ok (.iastore, 1) := by decide +kernel
theorem dX8_months_10 : decode cX8_months 10 = .ok (.aload_n 0, 1) := by decide +kernel
theorem dX8_months_11 : decode cX8_months 11 = .ok (.invokevirtual 143, 3) := by decide +kernel
theorem dX8_months_14 : decode cX8_months 14 = .ok (.istore_n 1, 1) := by decide +kernel
theorem dX8_months_15 : decode cX8_months 15 = .ok (.iconst 0, 1) := by decide +kernel
theorem dX8_months_16 : decode cX8_months 16 = .ok (.istore_n 2, 1) := by decide +kernel
theorem dX8_months_17 : decode cX8_months 17 = .ok (.iload_n 2, 1) := by decide +kernel
theorem dX8_months_18 : decode cX8_months 18 = .ok (.iconst 5, 1) := by decide +kernel
theorem dX8_months_19 : decode cX8_months 19 = .ok (.if_icmp .ge 14, 3) := by decide +kernel
theorem dX8_months_22 : decode cX8_months 22 = .ok (.aload_n 0, 1) := by decide +kernel
theorem dX8_months_23 : decode cX8_months 23 = .ok (.iload_n 2, 1) := by decide +kernel
theorem dX8_months_24 : decode cX8_months 24 = .ok (.invokevirtual 146, 3) := by decide +kernel
theorem dX8_months_27 : decode cX8_months 27 = .ok (.iinc 2 1, 3) := by decide +kernel
theorem dX8_months_30 : decode cX8_months 30 = .ok (.goto (-13), 3) := by decide +kernel
theorem dX8_months_33 : decode cX8_months 33 = .ok (.iconst 0, 1) := by decide +kernel
theorem dX8_months_34 : decode cX8_months 34 = .ok (.istore_n 2, 1) := by decide +kernel
theorem dX8_months_35 : decode cX8_months 35 = .ok (.iload_n 2, 1) := by decide +kernel
theorem dX8_months_36 : decode cX8_months 36 = .ok (.iconst 5, 1) := by decide +kernel
theorem dX8_months_37 : decode cX8_months 37 = .ok (.if_icmp .ge 125, 3) := by decide +kernel
theorem dX8_months_40 : decode cX8_months 40 = .ok (.aload_n 0, 1) := by decide +kernel
theorem dX8_months_41 : decode cX8_months 41 = .ok (.getfield 29, 3) := by decide +kernel
theorem dX8_months_44 : decode cX8_months 44 = .ok (.aload_n 0, 1) := by decide +kernel
theorem dX8_months_45 : decode cX8_months 45 = .ok (.getfield 13, 3) := by decide +kernel
theorem dX8_months_48 : decode cX8_months 48 = .ok (.iconst 0, 1) := by decide +kernel
theorem dX8_months_49 : decode cX8_months 49 = .ok (.iaload, 1) := by decide +kernel
theorem dX8_months_50 : decode cX8_months 50 = .ok (.bipush 12, 2) := by decide +kernel
theorem dX8_months_52 : decode cX8_months 52 = .ok (.irem, 1) := by decide +kernel
theorem dX8_months_53 : decode cX8_months 53 = .ok (.iaload, 1) := by decide +kernel
theorem dX8_months_54 : decode cX8_months 54 = .ok (.istore_n 3, 1) := by decide +kernel
theorem dX8_months_55 : decode cX8_months 55 = .ok (.bipush 60, 2) := by decide +kernel
theorem dX8_months_57 : decode cX8_months 57 = .ok (.aload_n 0, 1) := by decide +kernel
theorem dX8_months_58 : decode cX8_months 58 = .ok (.getfield 13, 3) := by decide +kernel
theorem dX8_months_61 : decode cX8_months 61 = .ok (.iload_n 2, 1) := by decide +kernel
theorem dX8_months_62 : decode cX8_months 62 = .ok (.iconst 0, 1) := by decide +kernel
theorem dX8_months_63 : decode cX8_months 63 = .ok (.invokestatic 50, 3) := by decide +kernel
theorem dX8_months_66 : decode cX8_months 66 = .ok (.iaload, 1) := by decide +kernel
theorem dX8_months_67 : decode cX8_months 67 = .ok (.isub, 1) := by decide +kernel
theorem dX8_months_68 : decode cX8_months 68 = .ok (.istore 4, 2) := by decide +kernel
theorem dX8_months_70 : decode cX8_months 70 = .ok (.aload_n 0, 1) := by decide +kernel
theorem dX8_months_71 : decode cX8_months 71 = .ok (.getfield 13, 3) := by decide +kernel
theorem dX8_months_74 : decode cX8_months 74 = .ok (.iload_n 2, 1) := by decide +kernel
theorem dX8_months_75 : decode cX8_months 75 = .ok (.iconst 0, 1) := by decide +kernel
theorem dX8_months_76 : decode cX8_months 76 = .ok (.invokestatic 50, 3) := by decide +kernel
theorem dX8_months_79 : decode cX8_months 79 = .ok (.dup2, 1) := by decide +kernel
theorem dX8_months_80 : decode cX8_months 80 = .ok (.iaload, 1) := by decide +kernel
theorem dX8_months_81 : decode cX8_months 81 = .ok (.iload_n 3, 1) := by decide +kernel
theorem dX8_months_82 : decode cX8_months 82 = .ok (.iload 4, 2) := by decide +kernel
theorem dX8_months_84 : decode cX8_months 84 = .ok (.if_icmp .ge 7, 3) := by decide +kernel
theorem dX8_months_87 : decode cX8_months 87 = .ok (.iload_n 3, 1) := by decide +kernel
theorem dX8_months_88 : decode cX8_months 88 = .ok (.goto 5, 3) := by decide +kernel
theorem dX8_months_91 : decode cX8_months 91 = .ok (.iload 4, 2) := by decide +kernel
theorem dX8_months_93 : decode cX8_months 93 = .ok (.iadd, 1) := by decide +kernel
theorem dX8_months_94 : decode cX8_months 94 = .ok (.iastore, 1) := by decide +kernel
theorem dX8_months_95 : decode cX8_months 95 = .ok (.aload_n 0, 1) := by decide +kernel
theorem dX8_months_96 : decode cX8_months 96 = .ok (.getfield 13, 3) := by decide +kernel
theorem dX8_months_99 : decode cX8_months 99 = .ok (.iconst 2, 1) := by decide +kernel
theorem dX8_months_100 : decode cX8_months 100 = .ok (.dup2, 1) := by decide +kernel
theorem dX8_months_101 : decode cX8_months 101 = .ok (.iaload, 1) := by decide +kernel
theorem dX8_months_102 : decode cX8_months 102 = .ok (.iload_n 3, 1) := by decide +kernel
theorem dX8_months_103 : decode cX8_months 103 = .ok (.iload 4, 2) := by decide +kernel
theorem dX8_months_105 : decode cX8_months 105 = .ok (.if_icmp .ge 7, 3) := by decide +kernel
theorem dX8_months_108 : decode cX8_months 108 = .ok (.iload_n 3, 1) := by decide +kernel
theorem dX8_months_109 : decode cX8_months 109 = .ok (.goto 5, 3) := by decide +kernel
theorem dX8_months_112 : decode cX8_months 112 = .ok (.iload 4, 2) := by decide +kernel
theorem dX8_months_114 : decode cX8_months 114 = .ok (.iadd, 1) := by decide +kernel
theorem dX8_months_115 : decode cX8_months 115 = .ok (.iastore, 1) := by decide +kernel
theorem dX8_months_116 : decode cX8_months 116 = .ok (.aload_n 0, 1) := by decide +kernel
theorem dX8_months_117 : decode cX8_months 117 = .ok (.getfield 13, 3) := by decide +kernel
theorem dX8_months_120 : decode cX8_months 120 = .ok (.iload_n 2, 1) := by decide +kernel
theorem dX8_months_121 : decode cX8_months 121 = .ok (.iconst 1, 1) := by decide +kernel
theorem dX8_months_122 : decode cX8_months 122 = .ok (.invokestatic 50, 3) := by decide +kernel
theorem dX8_months_125 : decode cX8_months 125 = .ok (.aload_n 0, 1) := by decide +kernel
theorem dX8_months_126 : decode cX8_months 126 = .ok (.getfield 13, 3) := by decide +kernel
theorem dX8_months_129 : decode cX8_months 129 = .ok (.iload_n 2, 1) := by decide +kernel
theorem dX8_months_130 : decode cX8_months 130 = .ok (.iconst 1, 1) := by decide +kernel
theorem dX8_months_131 : decode cX8_months 131 = .ok (.invokestatic 50, 3) := by decide +kernel
theorem dX8_months_134 : decode cX8_months 134 = .ok (.iaload, 1) := by decide +kernel
theorem dX8_months_135 : decode cX8_months 135 = .ok (.iconst 3, 1) := by decide +kernel
theorem dX8_months_136 : decode cX8_months 136 = .ok (.if_icmp .le 18, 3) := by decide +kernel
theorem dX8_months_139 : decode cX8_months 139 = .ok (.aload_n 0, 1) := by decide +kernel
theorem dX8_months_140 : decode cX8_months 140 = .ok (.getfield 13, 3) := by decide +kernel
theorem dX8_months_143 : decode cX8_months 143 = .ok (.iload_n 2, 1) := by decide +kernel
theorem dX8_months_144 : decode cX8_months 144 = .ok (.iconst 1, 1) := by decide +kernel
theorem dX8_months_145 : decode cX8_months 145 = .ok (.invokestatic 50, 3) := by decide +kernel
theorem dX8_months_148 : decode cX8_months 148 = .ok (.iaload, 1) := by decide +kernel
theorem dX8_months_149 : decode cX8_months 149 = .ok (.iconst 3, 1) := by decide +kernel
theorem dX8_months_150 : decode cX8_months 150 = .ok (.isub, 1) := by decide +kernel
theorem dX8_months_151 : decode cX8_months 151 = .ok (.goto 4, 3) := by decide +kernel
theorem dX8_months_154 : decode cX8_months 154 = .ok (.iconst 0, 1) := by decide +kernel
theorem dX8_months_155 : decode cX8_months 155 = .ok (.iastore, 1) := by decide +kernel
theorem dX8_months_156 : decode cX8_months 156 = .ok (.iinc 2 1, 3) := by decide +kernel
theorem dX8_months_159 : decode cX8_months 159 = .ok (.goto (-124), 3) := by decide +kernel
theorem dX8_months_162 : decode cX8_months 162 = .ok (.iload_n 1, 1) := by decide +kernel
theorem dX8_months_163 : decode cX8_months 163 = .ok (.ireturn, 1) := by decide +kernel
set_option maxRecDepth 20000 in
theorem ggX8_month_X8_begins : GoodIn wsX8_month wsX8_begins := goodIn_r _ [5, 6, 7, 8, 9, 10, 4, 11, 55, 56, 57, 58, 59, 60, 61, 62, 63, 64, 65, 66, 67, 68, 69, 70, 71, 72, 73, 74, 75, 76, 77, 78, 79, 80, 81] (by decide +kernel) (by decide +kernel)
set_option maxRecDepth 20000 in
theorem gX8_month_X8_begins : GoodIn wsX8_month (wsV RX8 95 RX8 yX8_begins wsX8_begins) := goodIn_app (goodIn_of _ (by decide +kernel)) ggX8_month_X8_begins
set_option maxRecDepth 20000 in
theorem ggX8_month_X8_months : GoodIn wsX8_month wsX8_months := goodIn_r _ [15, 8, 16, 17, 18, 19, 4, 20, 21, 22, 23, 24, 25, 26, 27, 28, 29, 30, 31, 32, 33, 34, 35, 36, 37, 38, 39, 40, 41, 42, 43, 44, 45, 46, 47, 48, 55, 56, 57, 58, 59, 60, 61, 62, 63, 64, 65, 66, 67, 68, 69, 70, 71, 72, 73, 74, 75, 76, 77, 78, 79, 80, 81] (by decide +kernel) (by decide +kernel)
set_option maxRecDepth 20000 in
theorem gX8_month_X8_months : GoodIn wsX8_month (wsV RX8 149 RX8 yX8_months wsX8_months) := goodIn_app (goodIn_of _ (by decide +kernel)) ggX8_month_X8_months
set_option maxRecDepth 20000 in
theorem ggX8_month_X8_ends : GoodIn wsX8_month wsX8_ends := goodIn_r _ [52, 6, 8, 7, 53, 54, 9, 10, 4, 11, 55, 56, 57, 58, 59, 60, 61, 62, 63, 64, 65, 66, 67, 68, 69, 70, 71, 72, 73, 74, 75, 76, 77, 78, 79, 80, 81] (by decide +kernel) (by decide +kernel)
set_option maxRecDepth 20000 in
theorem gX8_month_X8_ends : GoodIn wsX8_month (wsV RX8 102 RX8 yX8_ends wsX8_ends) := goodIn_app (goodIn_of _ (by decide +kernel)) ggX8_month_X8_ends
