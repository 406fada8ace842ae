theorem dX6_init_0 : decode cX6_init 0 = .ok (.aload_n 0, 1) := by decide +kernel
theorem dX6_init_1 : decode cX6_init 1 = .ok (.invokespecial 1, 3) := by decide +kernel
theorem dX6_init_4 : decode cX6_init 4 = .ok (.aload_n 0, 1) := by decide +kernel
theorem dX6_init_5 : decode cX6_init 5 = .ok (.iconst (-1), 1) := by decide +kernel
theorem dX6_init_6 : decode cX6_init 6 = .ok (.putfield 7, 3) := by decide +kernel
theorem dX6_init_9 : decode cX6_init 9 = .ok (.aload_n 0, 1) := by decide +kernel
theorem dX6_init_10 : decode cX6_init 10 = .ok (.iconst (-1), 1) := by decide +kernel
theorem dX6_init_11 : decode cX6_init 11 = .ok (.putfield 13, 3) := by decide +kernel
theorem dX6_init_14 : decode cX6_init 14 = .ok (.aload_n 0, 1) := by decide +kernel
theorem dX6_init_15 : decode cX6_init 15 = .ok (.bipush 109, 2) := by decide +kernel
theorem dX6_init_17 : decode cX6_init 17 = .ok (.newarray .int, 2) := by decide +kernel
theorem dX6_init_19 : decode cX6_init 19 = .ok (.putfield 16, 3) := by decide +kernel
theorem dX6_init_22 : decode cX6_init 22 = .ok (.aload_n 0, 1) := by decide +kernel
theorem dX6_init_23 : decode cX6_init 23 = .ok (.bipush 109, 2) := by decide +kernel
theorem dX6_init_25 : decode cX6_init 25 = .ok (.newarray .int, 2) := by decide +kernel
theorem dX6_init_27 : decode cX6_init 27 = .ok (.putfield 20, 3) := by decide +kernel
theorem dX6_init_30 : decode cX6_init 30 = .ok (.aload_n 0, 1) := by decide +kernel
theorem dX6_init_31 : decode cX6_init 31 = .ok (.bipush 109, 2) := by decide +kernel
theorem dX6_init_33 : decode cX6_init 33 = .ok (.newarray .int, 2) := by decide +kernel
theorem dX6_init_35 : decode cX6_init 35 = .ok (.putfield 23, 3) := by decide +kernel
theorem dX6_init_38 : decode cX6_init 38 = .ok (.aload_n 0, 1) := by decide +kernel
theorem dX6_init_39 : decode cX6_init 39 = .ok (.bipush 109, 2) := by decide +kernel
theorem dX6_init_41 : decode cX6_init 41 = .ok (.newarray .int, 2) := by decide +kernel
theorem dX6_init_43 : decode cX6_init 43 = .ok (.putfield 26, 3) := by decide +kernel
theorem dX6_init_46 : decode cX6_init 46 = .ok (.aload_n 0, 1) := by decide +kernel
theorem dX6_init_47 : decode cX6_init 47 = .ok (.sipush 872, 3) := by decide +kernel
theorem dX6_init_50 : decode cX6_init 50 = .ok (.newarray .int, 2) := by decide +kernel
theorem dX6_init_52 : decode cX6_init 52 = .ok (.putfield 29, 3) := by decide +kernel
theorem dX6_init_55 : decode cX6_init 55 = .ok (.aload_n 0, 1) := by decide +kernel
theorem dX6_init_56 : decode cX6_init 56 = .ok (.bipush 60, 2) := by decide +kernel
theorem dX6_init_58 : decode cX6_init 58 = .ok (.newarray .int, 2) := by decide +kernel
theorem dX6_init_60 : decode cX6_init 60 = .ok (.putfield 32, 3) := by decide +kernel
theorem dX6_init_63 : decode cX6_init 63 = .ok (.aload_n 0, 1) := by decide +kernel
theorem dX6_init_64 : decode cX6_init 64 = .ok (.bipush 40, 2) := by decide +kernel
theorem dX6_init_66 : decode cX6_init 66 = .ok (.newarray .int, 2) := by decide +kernel
theorem dX6_init_68 : decode cX6_init 68 = .ok (.putfield 35, 3) := by decide +kernel
theorem dX6_init_71 : decode cX6_init 71 = .ok (.aload_n 0, 1) := by decide +kernel
theorem dX6_init_72 : decode cX6_init 72 = .ok (.bipush 9, 2) := by decide +kernel
theorem dX6_init_74 : decode cX6_init 74 = .ok (.newarray .int, 2) := by decide +kernel
theorem dX6_init_76 : decode cX6_init 76 = .ok (.putfield 38, 3) := by decide +kernel
theorem dX6_init_79 : decode cX6_init 79 = .ok (.aload_n 0, 1) := by decide +kernel
theorem dX6_init_80 : decode cX6_init 80 = .ok (.bipush 47, 2) := by decide +kernel
theorem dX6_init_82 : decode cX6_init 82 = .ok (.newarray .int, 2) := by decide +kernel
theorem dX6_init_84 : decode cX6_init 84 = .ok (.dup, 1) := by decide +kernel
theorem dX6_init_85 : decode cX6_init 85 = .ok (.iconst 0, 1) := by decide +kernel
theorem dX6_init_86 : decode cX6_init 86 = .ok (.bipush 101, 2) := by decide +kernel
theorem dX6_init_88 : decode cX6_init 88 = .ok (.iastore, 1) := by decide +kernel
theorem dX6_init_89 : decode cX6_init 89 = .ok (.dup, 1) := by decide +kernel
theorem dX6_init_90 : decode cX6_init 90 = .ok (.iconst 1, 1) := by decide +kernel
theorem dX6_init_91 : decode cX6_init 91 = .ok (.bipush 97, 2) := by decide +kernel
theorem dX6_init_93 : decode cX6_init 93 = .ok (.iastore, 1) := by decide +kernel
theorem dX6_init_94 : decode cX6_init 94 = .ok (.dup, 1) := by decide +kernel
theorem dX6_init_95 : decode cX6_init 95 = .ok (.iconst 2, 1) := by decide +kernel
theorem dX6_init_96 : decode cX6_init 96 = .ok (.bipush 114, 2) := by decide +kernel
theorem dX6_init_98 : decode cX6_init 98 = .ok (.iastore, 1) := by decide +kernel
theorem dX6_init_99 : decode cX6_init 99 = .ok (.dup, 1) := by decide +kernel
theorem dX6_init_100 : decode cX6_init 100 = .ok (.iconst 3, 1) := by decide +kernel
theorem dX6_init_101 : decode cX6_init 101 = .ok (.bipush 32, 2) := by decide +kernel
theorem dX6_init_103 : decode cX6_init 103 = .ok (.iastore, 1) := by decide +kernel
theorem dX6_init_104 : decode cX6_init 104 = .ok (.dup, 1) := by decide +kernel
theorem dX6_init_105 : decode cX6_init 105 = .ok (.iconst 4, 1) := by decide +kernel
theorem dX6_init_106 : decode cX6_init 106 = .ok (.bipush 108, 2) := by decide +kernel
theorem dX6_init_108 : decode cX6_init 108 = .ok (.iastore, 1) := by decide +kernel
theorem dX6_init_109 : decode cX6_init 109 = .ok (.dup, 1) := by decide +kernel
theorem dX6_init_110 : decode cX6_init 110 = .ok (.iconst 5, 1) := by decide +kernel
theorem dX6_init_111 : decode cX6_init 111 = .ok (.bipush 105, 2) := by decide +kernel
theorem dX6_init_113 : decode cX6_init 113 = .ok (.iastore, 1) := by decide +kernel
theorem dX6_init_114 : decode cX6_init 114 = .ok (.dup, 1) := by decide +kernel
theorem dX6_init_115 : decode cX6_init 115 = .ok (.bipush 6, 2) := by decide +kernel
theorem dX6_init_117 : decode cX6_init 117 = .ok (.bipush 110, 2) := by decide +kernel
theorem dX6_init_119 : decode cX6_init 119 = .ok (.iastore, 1) := by decide +kernel
theorem dX6_init_120 : decode cX6_init 120 = .ok (.dup, 1) := by decide +kernel
theorem dX6_init_121 : decode cX6_init 121 = .ok (.bipush 7, 2) := by decide +kernel
theorem dX6_init_123 : decode cX6_init 123 = .ok (.bipush 107, 2) := by decide +kernel
theorem dX6_init_125 : decode cX6_init 125 = .ok (.iastore, 1) := by decide +kernel
theorem dX6_init_126 : decode cX6_init 126 = .ok (.dup, 1) := by decide +kernel
theorem dX6_init_127 : decode cX6_init 127 = .ok (.bipush 8, 2) := by decide +kernel
theorem dX6_init_129 : decode cX6_init 129 = .ok (.bipush 32, 2) := by decide +kernel
theorem dX6_init_131 : decode cX6_init 131 = .ok (.iastore, 1) := by decide +kernel
theorem dX6_init_132 : decode cX6_init 132 = .ok (.dup, 1) := by decide +kernel
theorem dX6_init_133 : decode cX6_init 133 = .ok (.bipush 9, 2) := by decide +kernel
theorem dX6_init_135 : decode cX6_init 135 = .ok (.bipush 99, 2) := by decide +kernel
theorem dX6_init_137 : decode cX6_init 137 = .ok (.iastore, 1) := by decide +kernel
theorem dX6_init_138 : decode cX6_init 138 = .ok (.dup, 1) := by decide +kernel
theorem dX6_init_139 : decode cX6_init 139 = .ok (.bipush 10, 2) := by decide +kernel
theorem dX6_init_141 : decode cX6_init 141 = .ok (.bipush 117, 2) := by decide +kernel
theorem dX6_init_143 : decode cX6_init 143 = .ok (.iastore, 1) := by decide +kernel
theorem dX6_init_144 : decode cX6_init 144 = .ok (.dup, 1) := by decide +kernel
theorem dX6_init_145 : decode cX6_init 145 = .ok (.bipush 11, 2) := by decide +kernel
theorem dX6_init_147 : decode cX6_init 147 = .ok (.bipush 116, 2) := by decide +kernel
theorem dX6_init_149 : decode cX6_init 149 = .ok (.iastore, 1) := by decide +kernel
theorem dX6_init_150 : decode cX6_init 150 = .ok (.dup, 1) := by decide +kernel
theorem dX6_init_151 : decode cX6_init 151 = .ok (.bipush 12, 2) := by decide +kernel
theorem dX6_init_153 : decode cX6_init 153 = .ok (.bipush 32, 2) := by decide +kernel
theorem dX6_init_155 : decode cX6_init 155 = .ok (.iastore, 1) := by decide +kernel
theorem dX6_init_156 : decode cX6_init 156 = .ok (.dup, 1) := by decide +kernel
theorem dX6_init_157 : decode cX6_init 157 = .ok (.bipush 13, 2) := by decide +kernel
theorem dX6_init_159 : decode cX6_init 159 = .ok (.bipush 115, 2) := by decide +kernel
theorem dX6_init_161 : decode cX6_init 161 = .ok (.iastore, 1) := by decide +kernel
theorem dX6_init_162 : decode cX6_init 162 = .ok (.dup, 1) := by decide +kernel
theorem dX6_init_163 : decode cX6_init 163 = .ok (.bipush 14, 2) := by decide +kernel
theorem dX6_init_165 : decode cX6_init 165 = .ok (.bipush 116, 2) := by decide +kernel
theorem dX6_init_167 : decode cX6_init 167 = .ok (.iastore, 1) := by decide +kernel
theorem dX6_init_168 : decode cX6_init 168 = .ok (.dup, 1) := by decide +kernel
theorem dX6_init_169 : decode cX6_init 169 = .ok (.bipush 15, 2) := by decide +kernel
theorem dX6_init_171 : decode cX6_init 171 = .ok (.bipush 97, 2) := by decide +kernel
theorem dX6_init_173 : decode cX6_init 173 = .ok (.iastore, 1) := by decide +kernel
theorem dX6_init_174 : decode cX6_init 174 = .ok (.dup, 1) := by decide +kernel
theorem dX6_init_175 : decode cX6_init 175 = .ok (.bipush 16, 2) := by decide +kernel
theorem dX6_init_177 : decode cX6_init 177 = .ok (.bipush 114, 2) := by decide +kernel
theorem dX6_init_179 : decode cX6_init 179 = .ok (.iastore, 1) := by decide +kernel
theorem dX6_init_180 : decode cX6_init 180 = .ok (.dup, 1) := by decide +kernel
theorem dX6_init_181 : decode cX6_init 181 = .ok (.bipush 17, 2) := by decide +kernel
theorem dX6_init_183 : decode cX6_init 183 = .ok (.bipush 116, 2) := by decide +kernel
theorem dX6_init_185 : decode cX6_init 185 = .ok (.iastore, 1) := by decide +kernel
theorem dX6_init_186 : decode cX6_init 186 = .ok (.dup, 1) := by decide +kernel
theorem dX6_init_187 : decode cX6_init 187 = .ok (.bipush 18, 2) := by decide +kernel
theorem dX6_init_189 : decode cX6_init 189 = .ok (.bipush 32, 2) := by decide +kernel
theorem dX6_init_191 : decode cX6_init 191 = .ok (.iastore, 1) := by decide +kernel
theorem dX6_init_192 : decode cX6_init 192 = .ok (.dup, 1) := by decide +kernel
theorem dX6_init_193 : decode cX6_init 193 = .ok (.bipush 19, 2) := by decide +kernel
theorem dX6_init_195 : decode cX6_init 195 = .ok (.bipush 99, 2) := by decide +kernel
theorem dX6_init_197 : decode cX6_init 197 = .ok (.iastore, 1) := by decide +kernel
theorem dX6_init_198 : decode cX6_init 198 = .ok (.dup, 1) := by decide +kernel
theorem dX6_init_199 : decode cX6_init 199 = .ok (.bipush 20, 2) := by decide +kernel
theorem dX6_init_201 : decode cX6_init 201 = .ok (.bipush 104, 2) := by decide +kernel
theorem dX6_init_203 : decode cX6_init 203 = .ok (.iastore, 1) := by decide +kernel
theorem dX6_init_204 : decode cX6_init 204 = .ok (.dup, 1) := by decide +kernel
theorem dX6_init_205 : decode cX6_init 205 = .ok (.bipush 21, 2) := by decide +kernel
theorem dX6_init_207 : decode cX6_init 207 = .ok (.bipush 101, 2) := by decide +kernel
theorem dX6_init_209 : decode cX6_init 209 = .ok (.iastore, 1) := by decide +kernel
theorem dX6_init_210 : decode cX6_init 210 = .ok (.dup, 1) := by decide +kernel
theorem dX6_init_211 : decode cX6_init 211 = .ok (.bipush 22, 2) := by decide +kernel
theorem dX6_init_213 : decode cX6_init 213 = .ok (.bipush 99, 2) := by decide +kernel
theorem dX6_init_215 : decode cX6_init 215 = .ok (.iastore, 1) := by decide +kernel
theorem dX6_init_216 : decode cX6_init 216 = .ok (.dup, 1) := by decide +kernel
theorem dX6_init_217 : decode cX6_init 217 = .ok (.bipush 23, 2) := by decide +kernel
theorem dX6_init_219 : decode cX6_init 219 = .ok (.bipush 107, 2) := by decide +kernel
theorem dX6_init_221 : decode cX6_init 221 = .ok (.iastore, 1) := by decide +kernel
theorem dX6_init_222 : decode cX6_init 222 = .ok (.dup, 1) := by decide +kernel
theorem dX6_init_223 : decode cX6_init 223 = .ok (.bipush 24, 2) := by decide +kernel
theorem dX6_init_225 : decode cX6_init 225 = .ok (.bipush 32, 2) := by decide +kernel
theorem dX6_init_227 : decode cX6_init 227 = .ok (.iastore, 1) := by decide +kernel
theorem dX6_init_228 : decode cX6_init 228 = .ok (.dup, 1) := by decide +kernel
theorem dX6_init_229 : decode cX6_init 229 = .ok (.bipush 25, 2) := by decide +kernel
theorem dX6_init_231 : decode cX6_init 231 = .ok (.bipush 100, 2) := by decide +kernel
theorem dX6_init_233 : decode cX6_init 233 = .ok (.iastore, 1) := by decide +kernel
theorem dX6_init_234 : decode cX6_init 234 = .ok (.dup, 1) := by decide +kernel
theorem dX6_init_235 : decode cX6_init 235 = .ok (.bipush 26, 2) := by decide +kernel
theorem dX6_init_237 : decode cX6_init 237 = .ok (.bipush 101, 2) := by decide +kernel
theorem dX6_init_239 : decode cX6_init 239 = .ok (.iastore, 1) := by decide +kernel
theorem dX6_init_240 : decode cX6_init 240 = .ok (.dup, 1) := by decide +kernel
theorem dX6_init_241 : decode cX6_init 241 = .ok (.bipush 27, 2) := by decide +kernel
theorem dX6_init_243 : decode cX6_init 243 = .ok (.bipush 110, 2) := by decide +kernel
theorem dX6_init_245 : decode cX6_init 245 = .ok (.iastore, 1) := by decide +kernel
theorem dX6_init_246 : decode cX6_init 246 = .ok (.dup, 1) := by decide +kernel
theorem dX6_init_247 : decode cX6_init 247 = .ok (.bipush 28, 2) := by decide +kernel
theorem dX6_init_249 : decode cX6_init 249 = .ok (.bipush 121, 2) := by decide +kernel
theorem dX6_init_251 : decode cX6_init 251 = .ok (.iastore, 1) := by decide +kernel
theorem dX6_init_252 : decode cX6_init 252 = .ok (.dup, 1) := by decide +kernel
theorem dX6_init_253 : decode cX6_init 253 = .ok (.bipush 29, 2) := by decide +kernel
theorem dX6_init_255 : decode cX6_init 255 = .ok (.bipush 32, 2) := by decide +kernel
theorem dX6_init_257 : decode cX6_init 257 = .ok (.iastore, 1) := by decide +kernel
theorem dX6_init_258 : decode cX6_init 258 = .ok (.dup, 1) := by decide +kernel
theorem dX6_init_259 : decode cX6_init 259 = .ok (.bipush 30, 2) := by decide +kernel
theorem dX6_init_261 : decode cX6_init 261 = .ok (.bipush 97, 2) := by decide +kernel
theorem dX6_init_263 : decode cX6_init 263 = .ok (.iastore, 1) := by decide +kernel
theorem dX6_init_264 : decode cX6_init 264 = .ok (.dup, 1) := by decide +kernel
theorem dX6_init_265 : decode cX6_init 265 = .ok (.bipush 31, 2) := by decide +kernel
theorem dX6_init_267 : decode cX6_init 267 = .ok (.bipush 110, 2) := by decide +kernel
theorem dX6_init_269 : decode cX6_init 269 = .ok (.iastore, 1) := by decide +kernel
theorem dX6_init_270 : decode cX6_init 270 = .ok (.dup, 1) := by decide +kernel
theorem dX6_init_271 : decode cX6_init 271 = .ok (.bipush 32, 2) := by decide +kernel
theorem dX6_init_273 : decode cX6_init 273 = .ok (.bipush 115, 2) := by decide +kernel
theorem dX6_init_275 : decode cX6_init 275 = .ok (.iastore, 1) := by decide +kernel
theorem dX6_init_276 : decode cX6_init 276 = .ok (.dup, 1) := by decide +kernel
theorem dX6_init_277 : decode cX6_init 277 = .ok (.bipush 33, 2) := by decide +kernel
theorem dX6_init_279 : decode cX6_init 279 = .ok (.bipush 119, 2) := by decide +kernel
theorem dX6_init_281 : decode cX6_init 281 = .ok (.iastore, 1) := by decide +kernel
theorem dX6_init_282 : decode cX6_init 282 = .ok (.dup, 1) := by decide +kernel
theorem dX6_init_283 : decode cX6_init 283 = .ok (.bipush 34, 2) := by decide +kernel
theorem dX6_init_285 : decode cX6_init 285 = .ok (.bipush 101, 2) := by decide +kernel
theorem dX6_init_287 : decode cX6_init 287 = .ok (.iastore, 1) := by decide +kernel
theorem dX6_init_288 : decode cX6_init 288 = .ok (.dup, 1) := by decide +kernel
theorem dX6_init_289 : decode cX6_init 289 = .ok (.bipush 35, 2) := by decide +kernel
theorem dX6_init_291 : decode cX6_init 291 = .ok (.bipush 114, 2) := by decide +kernel
theorem dX6_init_293 : decode cX6_init 293 = .ok (.iastore, 1) := by decide +kernel
theorem dX6_init_294 : decode cX6_init 294 = .ok (.dup, 1) := by decide +kernel
theorem dX6_init_295 : decode cX6_init 295 = .ok (.bipush 36, 2) := by decide +kernel
theorem dX6_init_297 : decode cX6_init 297 = .ok (.bipush 32, 2) := by decide +kernel
theorem dX6_init_299 : decode cX6_init 299 = .ok (.iastore, 1) := by decide +kernel
theorem dX6_init_300 : decode cX6_init 300 = .ok (.dup, 1) := by decide +kernel
theorem dX6_init_301 : decode cX6_init 301 = .ok (.bipush 37, 2) := by decide +kernel
theorem dX6_init_303 : decode cX6_init 303 = .ok (.bipush 109, 2) := by decide +kernel
theorem dX6_init_305 : decode cX6_init 305 = .ok (.iastore, 1) := by decide +kernel
theorem dX6_init_306 : decode cX6_init 306 = .ok (.dup, 1) := by decide +kernel
theorem dX6_init_307 : decode cX6_init 307 = .ok (.bipush 38, 2) := by decide +kernel
theorem dX6_init_309 : decode cX6_init 309 = .ok (.bipush 111, 2) := by decide +kernel
theorem dX6_init_311 : decode cX6_init 311 = .ok (.iastore, 1) := by decide +kernel
theorem dX6_init_312 : decode cX6_init 312 = .ok (.dup, 1) := by decide +kernel
theorem dX6_init_313 : decode cX6_init 313 = .ok (.bipush 39, 2) := by decide +kernel
theorem dX6_init_315 : decode cX6_init 315 = .ok (.bipush 118, 2) := by decide +kernel
theorem dX6_init_317 : decode cX6_init 317 = .ok (.iastore, 1) := by decide +kernel
theorem dX6_init_318 : decode cX6_init 318 = .ok (.dup, 1) := by decide +kernel
theorem dX6_init_319 : decode cX6_init 319 = .ok (.bipush 40, 2) := by decide +kernel
theorem dX6_init_321 : decode cX6_init 321 = .ok (.bipush 101, 2) := by decide +kernel
theorem dX6_init_323 : decode cX6_init 323 = .ok (.iastore, 1) := by decide +kernel
theorem dX6_init_324 : decode cX6_init 324 = .ok (.dup, 1) := by decide +kernel
theorem dX6_init_325 : decode cX6_init 325 = .ok (.bipush 41, 2) := by decide +kernel
theorem dX6_init_327 : decode cX6_init 327 = .ok (.bipush 32, 2) := by decide +kernel
theorem dX6_init_329 : decode cX6_init 329 = .ok (.iastore, 1) := by decide +kernel
theorem dX6_init_330 : decode cX6_init 330 = .ok (.dup, 1) := by decide +kernel
theorem dX6_init_331 : decode cX6_init 331 = .ok (.bipush 42, 2) := by decide +kernel
theorem dX6_init_333 : decode cX6_init 333 = .ok (.bipush 114, 2) := by decide +kernel
theorem dX6_init_335 : decode cX6_init 335 = .ok (.iastore, 1) := by decide +kernel
theorem dX6_init_336 : decode cX6_init 336 = .ok (.dup, 1) := by decide +kernel
theorem dX6_init_337 : decode cX6_init 337 = .ok (.bipush 43, 2) := by decide +kernel
theorem dX6_init_339 : decode cX6_init 339 = .ok (.bipush 111, 2) := by decide +kernel
theorem dX6_init_341 : decode cX6_init 341 = .ok (.iastore, 1) := by decide +kernel
theorem dX6_init_342 : decode cX6_init 342 = .ok (.dup, 1) := by decide +kernel
theorem dX6_init_343 : decode cX6_init 343 = .ok (.bipush 44, 2) := by decide +kernel
theorem dX6_init_345 : decode cX6_init 345 = .ok (.bipush 117, 2) := by decide +kernel
theorem dX6_init_347 : decode cX6_init 347 = .ok (.iastore, 1) := by decide +kernel
theorem dX6_init_348 : decode cX6_init 348 = .ok (.dup, 1) := by decide +kernel
theorem dX6_init_349 : decode cX6_init 349 = .ok (.bipush 45, 2) := by decide +kernel
theorem dX6_init_351 : decode cX6_init 351 = .ok (.bipush 110, 2) := by decide +kernel
theorem dX6_init_353 : decode cX6_init 353 = .ok (.iastore, 1) := by decide +kernel
theorem dX6_init_354 : decode cX6_init 354 = .ok (.dup, 1) := by decide +kernel
theorem dX6_init_355 : decode cX6_init 355 = .ok (.bipush 46, 2) := by decide +kernel
theorem dX6_init_357 : decode cX6_init 357 = .ok (.bipush 100, 2) := by decide +kernel
theorem dX6_init_359 : decode cX6_init 359 = .ok (.iastore, 1) := by decide +kernel
theorem dX6_init_360 : decode cX6_init 360 = .ok (.putfield 41, 3) := by decide +kernel
theorem dX6_init_363 : decode cX6_init 363 = .ok (.aload_n 0, 1) := by decide +kernel
theorem dX6_init_364 : decode cX6_init 364 = .ok (.bipush 10, 2) := by decide +kernel
theorem dX6_init_366 : decode cX6_init 366 = .ok (.newarray .int, 2) := by decide +kernel
theorem dX6_init_368 : decode cX6_init 368 = .ok (.dup, 1) := by decide +kernel
theorem dX6_init_369 : decode cX6_init 369 = .ok (.iconst 0, 1) := by decide +kernel
theorem dX6_init_370 : decode cX6_init 370 = .ok (.iconst 0, 1) := by decide +kernel
theorem dX6_init_371 : decode cX6_init 371 = .ok (.iastore, 1) := by decide +kernel
theorem dX6_init_372 : decode cX6_init 372 = .ok (.dup, 1) := by decide +kernel
theorem dX6_init_373 : decode cX6_init 373 = .ok (.iconst 1, 1) := by decide +kernel
theorem dX6_init_374 : decode cX6_init 374 = .ok (.iconst 4, 1) := by decide +kernel
theorem dX6_init_375 : decode cX6_init 375 = .ok (.iastore, 1) := by decide +kernel
theorem dX6_init_376 : decode cX6_init 376 = .ok (.dup, 1) := by decide +kernel
theorem dX6_init_377 : decode cX6_init 377 = .ok (.iconst 2, 1) := by decide +kernel
theorem dX6_init_378 : decode cX6_init 378 = .ok (.bipush 9, 2) := by decide +kernel
theorem dX6_init_380 : decode cX6_init 380 = .ok (.iastore, 1) := by decide +kernel
theorem dX6_init_381 : decode cX6_init 381 = .ok (.dup, 1) := by decide +kernel
theorem dX6_init_382 : decode cX6_init 382 = .ok (.iconst 3, 1) := by decide +kernel
theorem dX6_init_383 : decode cX6_init 383 = .ok (.bipush 13, 2) := by decide +kernel
theorem dX6_init_385 : decode cX6_init 385 = .ok (.iastore, 1) := by decide +kernel
theorem dX6_init_386 : decode cX6_init 386 = .ok (.dup, 1) := by decide +kernel
theorem dX6_init_387 : decode cX6_init 387 = .ok (.iconst 4, 1) := by decide +kernel
theorem dX6_init_388 : decode cX6_init 388 = .ok (.bipush 19, 2) := by decide +kernel
theorem dX6_init_390 : decode cX6_init 390 = .ok (.iastore, 1) := by decide +kernel
theorem dX6_init_391 : decode cX6_init 391 = .ok (.dup, 1) := by decide +kernel
theorem dX6_init_392 : decode cX6_init 392 = .ok (.iconst 5, 1) := by decide +kernel
theorem dX6_init_393 : decode cX6_init 393 = .ok (.bipush 25, 2) := by decide +kernel
theorem dX6_init_395 : decode cX6_init 395 = .ok (.iastore, 1) := by decide +kernel
theorem dX6_init_396 : decode cX6_init 396 = .ok (.dup, 1) := by decide +kernel
theorem dX6_init_397 : decode cX6_init 397 = .ok (.bipush 6, 2) := by decide +kernel
theorem dX6_init_399 : decode cX6_init 399 = .ok (.bipush 30, 2) := by decide +kernel
theorem dX6_init_401 : decode cX6_init 401 = .ok (.iastore, 1) := by decide +kernel
theorem dX6_init_402 : decode cX6_init 402 = .ok (.dup, 1) := by decide +kernel
theorem dX6_init_403 : decode cX6_init 403 = .ok (.bipush 7, 2) := by decide +kernel
theorem dX6_init_405 : decode cX6_init 405 = .ok (.bipush 37, 2) := by decide +kernel
theorem dX6_init_407 : decode cX6_init 407 = .ok (.iastore, 1) := by decide +kernel
theorem dX6_init_408 : decode cX6_init 408 = .ok (.dup, 1) := by decide +kernel
theorem dX6_init_409 : decode cX6_init 409 = .ok (.bipush 8, 2) := by decide +kernel
theorem dX6_init_411 : decode cX6_init 411 = .ok (.bipush 42, 2) := by decide +kernel
theorem dX6_init_413 : decode cX6_init 413 = .ok (.iastore, 1) := by decide +kernel
theorem dX6_init_414 : decode cX6_init 414 = .ok (.dup, 1) := by decide +kernel
theorem dX6_init_415 : decode cX6_init 415 = .ok (.bipush 9, 2) := by decide +kernel
theorem dX6_init_417 : decode cX6_init 417 = .ok (.bipush 47, 2) := by decide +kernel
theorem dX6_init_419 : decode cX6_init 419 = .ok (.iastore, 1) := by decide +kernel
theorem dX6_init_420 : decode cX6_init 420 = .ok (.putfield 44, 3) := by decide +kernel
theorem dX6_init_423 : decode cX6_init 423 = .ok (.return_, 1) := by decide +kernel
theorem dX6_thrown_0 : decode cX6_thrown 0 = .ok (.aload_n 0, 1) := by decide +kernel
theorem dX6_thrown_1 : decode cX6_thrown 1 = .ok (.getfield 47, 3) := by decide +kernel
theorem dX6_thrown_4 : decode cX6_thrown 4 = .ok (.ireturn, 1) := by decide +kernel
theorem dX6_fail_0 : decode cX6_fail 0 = .ok (.aload_n 0, 1) := by decide +kernel
theorem dX6_fail_1 : decode cX6_fail 1 = .ok (.iload_n 1, 1) := by decide +kernel
theorem dX6_fail_2 : decode cX6_fail 2 = .ok (.putfield 47, 3) := by decide +kernel
theorem dX6_fail_5 : decode cX6_fail 5 = .ok (.iconst 0, 1) := by decide +kernel
theorem dX6_fail_6 : decode cX6_fail 6 = .ok (.ireturn, 1) := by decide +kernel
theorem dX6_isIn_0 : decode cX6_isIn 0 = .ok (.iload_n 0, 1) := by decide +kernel
theorem dX6_isIn_1 : decode cX6_isIn 1 = .ok (.iload_n 1, 1) := by decide +kernel
theorem dX6_isIn_2 : decode cX6_isIn 2 = .ok (.if_icmp .lt 12, 3) := by decide +kernel
theorem dX6_isIn_5 : decode cX6_isIn 5 = .ok (.iload_n 0, 1) := by decide +kernel
theorem dX6_isIn_6 : decode cX6_isIn 6 = .ok (.iload_n 2, 1) := by decide +kernel
theorem dX6_isIn_7 : decode cX6_isIn 7 = .ok (.if_icmp .gt 7, 3) := by decide +kernel
theorem dX6_isIn_10 : decode cX6_isIn 10 = .ok (.iconst 1, 1) := by decide +kernel
theorem dX6_isIn_11 : decode cX6_isIn 11 = .ok (.goto 4, 3) := by decide +kernel
theorem dX6_isIn_14 : decode cX6_isIn 14 = .ok (.iconst 0, 1) := by decide +kernel
theorem dX6_isIn_15 : decode cX6_isIn 15 = .ok (.ireturn, 1) := by decide +kernel
theorem dX6_lays_0 : decode cX6_lays 0 = .ok (.iconst 0, 1) := by decide +kernel
theorem dX6_lays_1 : decode cX6_lays 1 = .ok (.istore_n 2, 1) := by decide +kernel
theorem dX6_lays_2 : decode cX6_lays 2 = .ok (.iload_n 2, 1) := by decide +kernel
theorem dX6_lays_3 : decode cX6_lays 3 = .ok (.bipush 109, 2) := by decide +kernel
theorem dX6_lays_5 : decode cX6_lays 5 = .ok (.if_icmp .ge 15, 3) := by decide +kernel
theorem dX6_lays_8 : decode cX6_lays 8 = .ok (.aload_n 0, 1) := by decide +kernel
theorem dX6_lays_9 : decode cX6_lays 9 = .ok (.iload_n 2, 1) := by decide +kernel
theorem dX6_lays_10 : decode cX6_lays 10 = .ok (.aload_n 1, 1) := by decide +kernel
theorem dX6_lays_11 : decode cX6_lays 11 = .ok (.iload_n 2, 1) := by decide +kernel
theorem dX6_lays_12 : decode cX6_lays 12 = .ok (.iaload, 1) := by decide +kernel
theorem dX6_lays_13 : decode cX6_lays 13 = .ok (.iastore, 1) := by decide +kernel
theorem dX6_lays_14 : decode cX6_lays 14 = .ok (.iinc 2 1, 3) := by decide +kernel
theorem dX6_lays_17 : decode cX6_lays 17 = .ok (.goto (-15), 3) := by decide +kernel
theorem dX6_lays_20 : decode cX6_lays 20 = .ok (.return_, 1) := by decide +kernel
theorem dX6_begins_0 : decode cX6_begins 0 = .ok (.aload_n 0, 1) := by decide +kernel
theorem dX6_begins_1 : decode cX6_begins 1 = .ok (.iconst 0, 1) := by decide +kernel
theorem dX6_begins_2 : decode cX6_begins 2 = .ok (.putfield 47, 3) := by decide +kernel
theorem dX6_begins_5 : decode cX6_begins 5 = .ok (.aload_n 0, 1) := by decide +kernel
theorem dX6_begins_6 : decode cX6_begins 6 = .ok (.getfield 20, 3) := by decide +kernel
theorem dX6_begins_9 : decode cX6_begins 9 = .ok (.aload_n 0, 1) := by decide +kernel
theorem dX6_begins_10 : decode cX6_begins 10 = .ok (.getfield 16, 3) := by decide +kernel
theorem dX6_begins_13 : decode cX6_begins 13 = .ok (.invokestatic 50, 3) := by decide +kernel
theorem dX6_begins_16 : decode cX6_begins 16 = .ok (.return_, 1) := by decide +kernel
theorem dX6_ends_0 : decode cX6_ends 0 = .ok (.aload_n 0, 1) := by decide +kernel
theorem dX6_ends_1 : decode cX6_ends 1 = .ok (.getfield 47, 3) := by decide +kernel
theorem dX6_ends_4 : decode cX6_ends 4 = .ok (.ifCond .eq 16, 3) := by decide +kernel
theorem dX6_ends_7 : decode cX6_ends 7 = .ok (.aload_n 0, 1) := by decide +kernel
theorem dX6_ends_8 : decode cX6_ends 8 = .ok (.getfield 16, 3) := by decide +kernel
theorem dX6_ends_11 : decode cX6_ends 11 = .ok (.aload_n 0, 1) := by decide +kernel
theorem dX6_ends_12 : decode cX6_ends 12 = .ok (.getfield 20, 3) := by decide +kernel
theorem dX6_ends_15 : decode cX6_ends 15 = .ok (.invokestatic 50, 3) := by decide +kernel
theorem dX6_ends_18 : decode cX6_ends 18 = .ok (.iconst 0, 1) := by decide +kernel
theorem dX6_ends_19 : decode cX6_ends 19 = .ok (.ireturn, 1) := by decide +kernel
theorem dX6_ends_20 : decode cX6_ends 20 = .ok (.aload_n 0, 1) := by decide +kernel
theorem dX6_ends_21 : decode cX6_ends 21 = .ok (.getfield 54, 3) := by decide +kernel
theorem dX6_ends_24 : decode cX6_ends 24 = .ok (.bipush 8, 2) := by decide +kernel
theorem dX6_ends_26 : decode cX6_ends 26 = .ok (.if_icmp .ne 43, 3) := by decide +kernel
theorem dX6_ends_29 : decode cX6_ends 29 = .ok (.iconst 0, 1) := by decide +kernel
theorem dX6_ends_30 : decode cX6_ends 30 = .ok (.istore_n 2, 1) := by decide +kernel
theorem dX6_ends_31 : decode cX6_ends 31 = .ok (.iload_n 2, 1) := by decide +kernel
theorem dX6_ends_32 : decode cX6_ends 32 = .ok (.sipush 763, 3) := by decide +kernel
theorem dX6_ends_35 : decode cX6_ends 35 = .ok (.if_icmp .ge 24, 3) := by decide +kernel
theorem dX6_ends_38 : decode cX6_ends 38 = .ok (.aload_n 0, 1) := by decide +kernel
theorem dX6_ends_39 : decode cX6_ends 39 = .ok (.getfield 29, 3) := by decide +kernel
theorem dX6_ends_42 : decode cX6_ends 42 = .ok (.iload_n 2, 1) := by decide +kernel
theorem dX6_ends_43 : decode cX6_ends 43 = .ok (.aload_n 0, 1) := by decide +kernel
theorem dX6_ends_44 : decode cX6_ends 44 = .ok (.getfield 29, 3) := by decide +kernel
theorem dX6_ends_47 : decode cX6_ends 47 = .ok (.iload_n 2, 1) := by decide +kernel
theorem dX6_ends_48 : decode cX6_ends 48 = .ok (.bipush 109, 2) := by decide +kernel
theorem dX6_ends_50 : decode cX6_ends 50 = .ok (.iadd, 1) := by decide +kernel
theorem dX6_ends_51 : decode cX6_ends 51 = .ok (.iaload, 1) := by decide +kernel
theorem dX6_ends_52 : decode cX6_ends 52 = .ok (.iastore, 1) := by decide +kernel
theorem dX6_ends_53 : decode cX6_ends 53 = .ok (.iinc 2 1, 3) := by decide +kernel
theorem dX6_ends_56 : decode cX6_ends 56 = .ok (.goto (-25), 3) := by decide +kernel
theorem dX6_ends_59 : decode cX6_ends 59 = .ok (.aload_n 0, 1) := by decide +kernel
theorem dX6_ends_60 : decode cX6_ends 60 = .ok (.dup, 1) := by decide +kernel
theorem dX6_ends_61 : decode cX6_ends 61 = .ok (.getfield 54, 3) := by decide +kernel
theorem dX6_ends_64 : decode cX6_ends 64 = .ok (.iconst 1, 1) := by decide +kernel
theorem dX6_ends_65 : decode cX6_ends 65 = .ok (.isub, 1) := by decide +kernel
theorem dX6_ends_66 : decode cX6_ends 66 = .ok (.putfield 54, 3) := by decide +kernel
theorem dX6_ends_69 : decode cX6_ends 69 = .ok (.iconst 0, 1) := by decide +kernel
theorem dX6_ends_70 : decode cX6_ends 70 = .ok (.istore_n 2, 1) := by decide +kernel
theorem dX6_ends_71 : decode cX6_ends 71 = .ok (.iload_n 2, 1) := by decide +kernel
theorem dX6_ends_72 : decode cX6_ends 72 = .ok (.bipush 109, 2) := by decide +kernel
theorem dX6_ends_74 : decode cX6_ends 74 = .ok (.if_icmp .ge 29, 3) := by decide +kernel
theorem dX6_ends_77 : decode cX6_ends 77 = .ok (.aload_n 0, 1) := by decide +kernel
theorem dX6_ends_78 : decode cX6_ends 78 = .ok (.getfield 29, 3) := by decide +kernel
theorem dX6_ends_81 : decode cX6_ends 81 = .ok (.aload_n 0, 1) := by decide +kernel
theorem dX6_ends_82 : decode cX6_ends 82 = .ok (.getfield 54, 3) := by decide +kernel
theorem dX6_ends_85 : decode cX6_ends 85 = .ok (.bipush 109, 2) := by decide +kernel
theorem dX6_ends_87 : decode cX6_ends 87 = .ok (.imul, 1) := by decide +kernel
theorem dX6_ends_88 : decode cX6_ends 88 = .ok (.iload_n 2, 1) := by decide +kernel
theorem dX6_ends_89 : decode cX6_ends 89 = .ok (.iadd, 1) := by decide +kernel
theorem dX6_ends_90 : decode cX6_ends 90 = .ok (.aload_n 0, 1) := by decide +kernel
theorem dX6_ends_91 : decode cX6_ends 91 = .ok (.getfield 20, 3) := by decide +kernel
theorem dX6_ends_94 : decode cX6_ends 94 = .ok (.iload_n 2, 1) := by decide +kernel
theorem dX6_ends_95 : decode cX6_ends 95 = .ok (.iaload, 1) := by decide +kernel
theorem dX6_ends_96 : decode cX6_ends 96 = .ok (.iastore, 1) := by decide +kernel
theorem dX6_ends_97 : decode cX6_ends 97 = .ok (.iinc 2 1, 3) := by decide +kernel
theorem dX6_ends_100 : decode cX6_ends 100 = .ok (.goto (-29), 3) := by decide +kernel
theorem dX6_ends_103 : decode cX6_ends 103 = .ok (.aload_n 0, 1) := by decide +kernel
theorem dX6_ends_104 : decode cX6_ends 104 = .ok (.dup, 1) := by decide +kernel
theorem dX6_ends_105 : decode cX6_ends 105 = .ok (.getfield 54, 3) := by decide +kernel
theorem dX6_ends_108 : decode cX6_ends 108 = .ok (.iconst 1, 1) := by decide +kernel
theorem dX6_ends_109 : decode cX6_ends 109 = .ok (.iadd, 1) := by decide +kernel
theorem dX6_ends_110 : decode cX6_ends 110 = .ok (.putfield 54, 3) := by decide +kernel
theorem dX6_ends_113 : decode cX6_ends 113 = .ok (.iload_n 1, 1) := by decide +kernel
theorem dX6_ends_114 : decode cX6_ends 114 = .ok (.ireturn, 1) := by decide +kernel
theorem dX6_isEar_0 : decode cX6_isEar 0 = .ok (.iload_n 1, 1) := by decide +kernel
theorem dX6_isEar_1 : decode cX6_isEar 1 = .ok (.iconst 0, 1) := by decide +kernel
theorem dX6_isEar_2 : decode cX6_isEar 2 = .ok (.aload_n 0, 1) := by decide +kernel
theorem dX6_isEar_3 : decode cX6_isEar 3 = .ok (.getfield 16, 3) := by decide +kernel
theorem dX6_isEar_6 : decode cX6_isEar 6 = .ok (.iconst 0, 1) := by decide +kernel
theorem dX6_isEar_7 : decode cX6_isEar 7 = .ok (.iaload, 1) := by decide +kernel
theorem dX6_isEar_8 : decode cX6_isEar 8 = .ok (.iconst 1, 1) := by decide +kernel
theorem dX6_isEar_9 : decode cX6_isEar 9 = .ok (.isub, 1) := by decide +kernel
theorem dX6_isEar_10 : decode cX6_isEar 10 = .ok (.invokestatic 57, 3) := by decide +kernel
theorem dX6_isEar_13 : decode cX6_isEar 13 = .ok (.ireturn, 1) := by decide +kernel
theorem dX6_isRumour_0 : decode cX6_isRumour 0 = .ok (.iload_n 1, 1) := by decide +kernel
theorem dX6_isRumour_1 : decode cX6_isRumour 1 = .ok (.iconst 0, 1) := by decide +kernel
theorem dX6_isRumour_2 : decode cX6_isRumour 2 = .ok (.aload_n 0, 1) := by decide +kernel
theorem dX6_isRumour_3 : decode cX6_isRumour 3 = .ok (.getfield 16, 3) := by decide +kernel
theorem dX6_isRumour_6 : decode cX6_isRumour 6 = .ok (.iconst 1, 1) := by decide +kernel
theorem dX6_isRumour_7 : decode cX6_isRumour 7 = .ok (.iaload, 1) := by decide +kernel
theorem dX6_isRumour_8 : decode cX6_isRumour 8 = .ok (.iconst 1, 1) := by decide +kernel
theorem dX6_isRumour_9 : decode cX6_isRumour 9 = .ok (.isub, 1) := by decide +kernel
theorem dX6_isRumour_10 : decode cX6_isRumour 10 = .ok (.invokestatic 57, 3) := by decide +kernel
theorem dX6_isRumour_13 : decode cX6_isRumour 13 = .ok (.ireturn, 1) := by decide +kernel
theorem dX6_isHive_0 : decode cX6_isHive 0 = .ok (.iload_n 0, 1) := by decide +kernel
theorem dX6_isHive_1 : decode cX6_isHive 1 = .ok (.iconst 0, 1) := by decide +kernel
theorem dX6_isHive_2 : decode cX6_isHive 2 = .ok (.iconst 3, 1) := by decide +kernel
theorem dX6_isHive_3 : decode cX6_isHive 3 = .ok (.invokestatic 57, 3) := by decide +kernel
theorem dX6_isHive_6 : decode cX6_isHive 6 = .ok (.ireturn, 1) := by decide +kernel
theorem dX6_isDigit_0 : decode cX6_isDigit 0 = .ok (.iload_n 0, 1) := by decide +kernel
theorem dX6_isDigit_1 : decode cX6_isDigit 1 = .ok (.iconst 0, 1) := by decide +kernel
theorem dX6_isDigit_2 : decode cX6_isDigit 2 = .ok (.bipush 9, 2) := by decide +kernel
theorem dX6_isDigit_4 : decode cX6_isDigit 4 = .ok (.invokestatic 57, 3) := by decide +kernel
theorem dX6_isDigit_7 : decode cX6_isDigit 7 = .ok (.ireturn, 1) := by decide +kernel
theorem dX6_of_0 : decode cX6_of 0 = .ok (.bipush 41, 2) := by decide +kernel
theorem dX6_of_2 : decode cX6_of 2 = .ok (.iconst 5, 1) := by decide +kernel
theorem dX6_of_3 : decode cX6_of 3 = .ok (.iload_n 0, 1) := by decide +kernel
theorem dX6_of_4 : decode cX6_of 4 = .ok (.imul, 1) := by decide +kernel
theorem dX6_of_5 : decode cX6_of 5 = .ok (.iadd, 1) := by decide +kernel
theorem dX6_of_6 : decode cX6_of 6 = .ok (.iload_n 1, 1) := by decide +kernel
theorem dX6_of_7 : decode cX6_of 7 = .ok (.iadd, 1) := by decide +kernel
theorem dX6_of_8 : decode cX6_of 8 = .ok (.ireturn, 1) := by decide +kernel
theorem dX6_has_0 : decode cX6_has 0 = .ok (.iload_n 0, 1) := by decide +kernel
theorem dX6_has_1 : decode cX6_has 1 = .ok (.iload_n 1, 1) := by decide +kernel
theorem dX6_has_2 : decode cX6_has 2 = .ok (.ishr, 1) := by decide +kernel
theorem dX6_has_3 : decode cX6_has 3 = .ok (.iconst 1, 1) := by decide +kernel
theorem dX6_has_4 : decode cX6_has 4 = .ok (.iand, 1) := by decide +kernel
theorem dX6_has_5 : decode cX6_has 5 = .ok (.iconst 1, 1) := by decide +kernel
theorem dX6_has_6 : decode cX6_has 6 = .ok (.if_icmp .ne 7, 3) := by decide +kernel
theorem dX6_has_9 : decode cX6_has 9 = .ok (.iconst 1, 1) := by decide +kernel
theorem dX6_has_10 : decode cX6_has 10 = .ok (.goto 4, 3) := by decide +kernel
theorem dX6_has_13 : decode cX6_has 13 = .ok (.iconst 0, 1) := by decide +kernel
theorem dX6_has_14 : decode cX6_has 14 = .ok (.ireturn, 1) := by decide +kernel
theorem dX6_bits_0 : decode cX6_bits 0 = .ok (.iconst 0, 1) := by decide +kernel
theorem dX6_bits_1 : decode cX6_bits 1 = .ok (.istore_n 1, 1) := by decide +kernel
theorem dX6_bits_2 : decode cX6_bits 2 = .ok (.iload_n 0, 1) := by decide +kernel
theorem dX6_bits_3 : decode cX6_bits 3 = .ok (.istore_n 2, 1) := by decide +kernel
theorem dX6_bits_4 : decode cX6_bits 4 = .ok (.iload_n 2, 1) := by decide +kernel
theorem dX6_bits_5 : decode cX6_bits 5 = .ok (.ifCond .eq 15, 3) := by decide +kernel
theorem dX6_bits_8 : decode cX6_bits 8 = .ok (.iinc 1 1, 3) := by decide +kernel
theorem dX6_bits_11 : decode cX6_bits 11 = .ok (.iload_n 2, 1) := by decide +kernel
theorem dX6_bits_12 : decode cX6_bits 12 = .ok (.iload_n 2, 1) := by decide +kernel
theorem dX6_bits_13 : decode cX6_bits 13 = .ok (.iconst 1, 1) := by decide +kernel
theorem dX6_bits_14 : decode cX6_bits 14 = .ok (.isub, 1) := by decide +kernel
theorem dX6_bits_15 : decode cX6_bits 15 = .ok (.iand, 1) := by decide +kernel
theorem dX6_bits_16 : decode cX6_bits 16 = .ok (.istore_n 2, 1) := by decide +kernel
theorem dX6_bits_17 : decode cX6_bits 17 = .ok (.goto (-13), 3) := by decide +kernel
theorem dX6_bits_20 : decode cX6_bits 20 = .ok (.iload_n 1, 1) := by decide +kernel
theorem dX6_bits_21 : decode cX6_bits 21 = .ok (.ireturn, 1) := by decide +kernel
theorem dX6_aware_0 : decode cX6_aware 0 = .ok (.aload_n 0, 1) := by decide +kernel
theorem dX6_aware_1 : decode cX6_aware 1 = .ok (.getfield 16, 3) := by decide +kernel
theorem dX6_aware_4 : decode cX6_aware 4 = .ok (.iload_n 1, 1) := by decide +kernel
theorem dX6_aware_5 : decode cX6_aware 5 = .ok (.iconst 3, 1) := by decide +kernel
theorem dX6_aware_6 : decode cX6_aware 6 = .ok (.invokestatic 61, 3) := by decide +kernel
theorem dX6_aware_9 : decode cX6_aware 9 = .ok (.iaload, 1) := by decide +kernel
theorem dX6_aware_10 : decode cX6_aware 10 = .ok (.aload_n 0, 1) := by decide +kernel
theorem dX6_aware_11 : decode cX6_aware 11 = .ok (.getfield 16, 3) := by decide +kernel
theorem dX6_aware_14 : decode cX6_aware 14 = .ok (.iload_n 1, 1) := by decide +kernel
theorem dX6_aware_15 : decode cX6_aware 15 = .ok (.iconst 4, 1) := by decide +kernel
theorem dX6_aware_16 : decode cX6_aware 16 = .ok (.invokestatic 61, 3) := by decide +kernel
theorem dX6_aware_19 : decode cX6_aware 19 = .ok (.iaload, 1) := by decide +kernel
theorem dX6_aware_20 : decode cX6_aware 20 = .ok (.ior, 1) := by decide +kernel
theorem dX6_aware_21 : decode cX6_aware 21 = .ok (.ireturn, 1) := by decide +kernel
theorem dX6_adds_0 : decode cX6_adds 0 = .ok (.iload_n 1, 1) := by decide +kernel
theorem dX6_adds_1 : decode cX6_adds 1 = .ok (.invokestatic 65, 3) := by decide +kernel
theorem dX6_adds_4 : decode cX6_adds 4 = .ok (.ifCond .eq 10, 3) := by decide +kernel
theorem dX6_adds_7 : decode cX6_adds 7 = .ok (.iload_n 2, 1) := by decide +kernel
theorem dX6_adds_8 : decode cX6_adds 8 = .ok (.invokestatic 69, 3) := by decide +kernel
theorem dX6_adds_11 : decode cX6_adds 11 = .ok (.ifCond .ne 9, 3) := by decide +kernel
theorem dX6_adds_14 : decode cX6_adds 14 = .ok (.aload_n 0, 1) := by decide +kernel
theorem dX6_adds_15 : decode cX6_adds 15 = .ok (.iconst 1, 1) := by decide +kernel
theorem dX6_adds_16 : decode cX6_adds 16 = .ok (.invokevirtual 72, 3) := by decide +kernel
theorem dX6_adds_19 : decode cX6_adds 19 = .ok (.ireturn, 1) := by decide +kernel
theorem dX6_adds_20 : decode cX6_adds 20 = .ok (.aload_n 0, 1) := by decide +kernel
theorem dX6_adds_21 : decode cX6_adds 21 = .ok (.getfield 16, 3) := by decide +kernel
theorem dX6_adds_24 : decode cX6_adds 24 = .ok (.iconst 0, 1) := by decide +kernel
theorem dX6_adds_25 : decode cX6_adds 25 = .ok (.iaload, 1) := by decide +kernel
theorem dX6_adds_26 : decode cX6_adds 26 = .ok (.istore_n 3, 1) := by decide +kernel
theorem dX6_adds_27 : decode cX6_adds 27 = .ok (.iload_n 3, 1) := by decide +kernel
theorem dX6_adds_28 : decode cX6_adds 28 = .ok (.bipush 12, 2) := by decide +kernel
theorem dX6_adds_30 : decode cX6_adds 30 = .ok (.if_icmp .ne 9, 3) := by decide +kernel
theorem dX6_adds_33 : decode cX6_adds 33 = .ok (.aload_n 0, 1) := by decide +kernel
theorem dX6_adds_34 : decode cX6_adds 34 = .ok (.iconst 2, 1) := by decide +kernel
theorem dX6_adds_35 : decode cX6_adds 35 = .ok (.invokevirtual 72, 3) := by decide +kernel
theorem dX6_adds_38 : decode cX6_adds 38 = .ok (.ireturn, 1) := by decide +kernel
theorem dX6_adds_39 : decode cX6_adds 39 = .ok (.aload_n 0, 1) := by decide +kernel
theorem dX6_adds_40 : decode cX6_adds 40 = .ok (.getfield 16, 3) := by decide +kernel
theorem dX6_adds_43 : decode cX6_adds 43 = .ok (.iconst 5, 1) := by decide +kernel
theorem dX6_adds_44 : decode cX6_adds 44 = .ok (.iload_n 3, 1) := by decide +kernel
theorem dX6_adds_45 : decode cX6_adds 45 = .ok (.iadd, 1) := by decide +kernel
theorem dX6_adds_46 : decode cX6_adds 46 = .ok (.iload_n 1, 1) := by decide +kernel
theorem dX6_adds_47 : decode cX6_adds 47 = .ok (.iastore, 1) := by decide +kernel
theorem dX6_adds_48 : decode cX6_adds 48 = .ok (.aload_n 0, 1) := by decide +kernel
theorem dX6_adds_49 : decode cX6_adds 49 = .ok (.getfield 16, 3) := by decide +kernel
theorem dX6_adds_52 : decode cX6_adds 52 = .ok (.bipush 17, 2) := by decide +kernel
theorem dX6_adds_54 : decode cX6_adds 54 = .ok (.iload_n 3, 1) := by decide +kernel
theorem dX6_adds_55 : decode cX6_adds 55 = .ok (.iadd, 1) := by decide +kernel
theorem dX6_adds_56 : decode cX6_adds 56 = .ok (.iload_n 2, 1) := by decide +kernel
theorem dX6_adds_57 : decode cX6_adds 57 = .ok (.iastore, 1) := by decide +kernel
theorem dX6_adds_58 : decode cX6_adds 58 = .ok (.aload_n 0, 1) := by decide +kernel
theorem dX6_adds_59 : decode cX6_adds 59 = .ok (.getfield 16, 3) := by decide +kernel
theorem dX6_adds_62 : decode cX6_adds 62 = .ok (.iconst 0, 1) := by decide +kernel
theorem dX6_adds_63 : decode cX6_adds 63 = .ok (.dup2, 1) := by decide +kernel
theorem dX6_adds_64 : decode cX6_adds 64 = .ok (.iaload, 1) := by decide +kernel
theorem dX6_adds_65 : decode cX6_adds 65 = .ok (.iconst 1, 1) := by decide +kernel
theorem dX6_adds_66 : decode cX6_adds 66 = .ok (.iadd, 1) := by decide +kernel
theorem dX6_adds_67 : decode cX6_adds 67 = .ok (.iastore, 1) := by decide +kernel
theorem dX6_adds_68 : decode cX6_adds 68 = .ok (.iload_n 3, 1) := by decide +kernel
theorem dX6_adds_69 : decode cX6_adds 69 = .ok (.ireturn, 1) := by decide +kernel
theorem dX6_addListener_0 : decode cX6_addListener 0 = .ok (.aload_n 0, 1) := by decide +kernel
theorem dX6_addListener_1 : decode cX6_addListener 1 = .ok (.invokevirtual 76, 3) := by decide +kernel
theorem dX6_addListener_4 : decode cX6_addListener 4 = .ok (.aload_n 0, 1) := by decide +kernel
theorem dX6_addListener_5 : decode cX6_addListener 5 = .ok (.aload_n 0, 1) := by decide +kernel
theorem dX6_addListener_6 : decode cX6_addListener 6 = .ok (.iload_n 1, 1) := by decide +kernel
theorem dX6_addListener_7 : decode cX6_addListener 7 = .ok (.iload_n 2, 1) := by decide +kernel
theorem dX6_addListener_8 : decode cX6_addListener 8 = .ok (.invokevirtual 79, 3) := by decide +kernel
theorem dX6_addListener_11 : decode cX6_addListener 11 = .ok (.invokevirtual 82, 3) := by decide +kernel
theorem dX6_addListener_14 : decode cX6_addListener 14 = .ok (.ireturn, 1) := by decide +kernel
theorem dX6_links_0 : decode cX6_links 0 = .ok (.iconst 0, 1) := by decide +kernel
theorem dX6_links_1 : decode cX6_links 1 = .ok (.istore_n 1, 1) := by decide +kernel
theorem dX6_links_2 : decode cX6_links 2 = .ok (.iconst 0, 1) := by decide +kernel
theorem dX6_links_3 : decode cX6_links 3 = .ok (.istore_n 2, 1) := by decide +kernel
theorem dX6_links_4 : decode cX6_links 4 = .ok (.iload_n 2, 1) := by decide +kernel
theorem dX6_links_5 : decode cX6_links 5 = .ok (.aload_n 0, 1) := by decide +kernel
theorem dX6_links_6 : decode cX6_links 6 = .ok (.getfield 16, 3) := by decide +kernel
theorem dX6_links_9 : decode cX6_links 9 = .ok (.iconst 0, 1) := by decide +kernel
theorem dX6_links_10 : decode cX6_links 10 = .ok (.iaload, 1) := by decide +kernel
theorem dX6_links_11 : decode cX6_links 11 = .ok (.if_icmp .ge 24, 3) := by decide +kernel
theorem dX6_links_14 : decode cX6_links 14 = .ok (.iload_n 1, 1) := by decide +kernel
theorem dX6_links_15 : decode cX6_links 15 = .ok (.aload_n 0, 1) := by decide +kernel
theorem dX6_links_16 : decode cX6_links 16 = .ok (.getfield 16, 3) := by decide +kernel
theorem dX6_links_19 : decode cX6_links 19 = .ok (.bipush 29, 2) := by decide +kernel
theorem dX6_links_21 : decode cX6_links 21 = .ok (.iload_n 2, 1) := by decide +kernel
theorem dX6_links_22 : decode cX6_links 22 = .ok (.iadd, 1) := by decide +kernel
theorem dX6_links_23 : decode cX6_links 23 = .ok (.iaload, 1) := by decide +kernel
theorem dX6_links_24 : decode cX6_links 24 = .ok (.invokestatic 85, 3) := by decide +kernel
theorem dX6_links_27 : decode cX6_links 27 = .ok (.iadd, 1) := by decide +kernel
theorem dX6_links_28 : decode cX6_links 28 = .ok (.istore_n 1, 1) := by decide +kernel
theorem dX6_links_29 : decode cX6_links 29 = .ok (.iinc 2 1, 3) := by decide +kernel
theorem dX6_links_32 : decode cX6_links 32 = .ok (.goto (-28), 3) := by decide +kernel
theorem dX6_links_35 : decode cX6_links 35 = .ok (.iload_n 1, 1) := by decide +kernel
theorem dX6_links_36 : decode cX6_links 36 = .ok (.iconst 2, 1) := by decide +kernel
theorem dX6_links_37 : decode cX6_links 37 = .ok (.idiv, 1) := by decide +kernel
theorem dX6_links_38 : decode cX6_links 38 = .ok (.ireturn, 1) := by decide +kernel
theorem dX6_turnsLink_0 : decode cX6_turnsLink 0 = .ok (.aload_n 0, 1) := by decide +kernel
theorem dX6_turnsLink_1 : decode cX6_turnsLink 1 = .ok (.getfield 16, 3) := by decide +kernel
theorem dX6_turnsLink_4 : decode cX6_turnsLink 4 = .ok (.bipush 29, 2) := by decide +kernel
theorem dX6_turnsLink_6 : decode cX6_turnsLink 6 = .ok (.iload_n 1, 1) := by decide +kernel
theorem dX6_turnsLink_7 : decode cX6_turnsLink 7 = .ok (.iadd, 1) := by decide +kernel
theorem dX6_turnsLink_8 : decode cX6_turnsLink 8 = .ok (.dup2, 1) := by decide +kernel
theorem dX6_turnsLink_9 : decode cX6_turnsLink 9 = .ok (.iaload, 1) := by decide +kernel
theorem dX6_turnsLink_10 : decode cX6_turnsLink 10 = .ok (.iconst 1, 1) := by decide +kernel
theorem dX6_turnsLink_11 : decode cX6_turnsLink 11 = .ok (.iload_n 2, 1) := by decide +kernel
theorem dX6_turnsLink_12 : decode cX6_turnsLink 12 = .ok (.ishl, 1) := by decide +kernel
theorem dX6_turnsLink_13 : decode cX6_turnsLink 13 = .ok (.ixor, 1) := by decide +kernel
theorem dX6_turnsLink_14 : decode cX6_turnsLink 14 = .ok (.iastore, 1) := by decide +kernel
theorem dX6_turnsLink_15 : decode cX6_turnsLink 15 = .ok (.aload_n 0, 1) := by decide +kernel
theorem dX6_turnsLink_16 : decode cX6_turnsLink 16 = .ok (.getfield 16, 3) := by decide +kernel
theorem dX6_turnsLink_19 : decode cX6_turnsLink 19 = .ok (.bipush 29, 2) := by decide +kernel
theorem dX6_turnsLink_21 : decode cX6_turnsLink 21 = .ok (.iload_n 2, 1) := by decide +kernel
theorem dX6_turnsLink_22 : decode cX6_turnsLink 22 = .ok (.iadd, 1) := by decide +kernel
theorem dX6_turnsLink_23 : decode cX6_turnsLink 23 = .ok (.dup2, 1) := by decide +kernel
theorem dX6_turnsLink_24 : decode cX6_turnsLink 24 = .ok (.iaload, 1) := by decide +kernel
theorem dX6_turnsLink_25 : decode cX6_turnsLink 25 = .ok (.iconst 1, 1) := by decide +kernel
theorem dX6_turnsLink_26 : decode cX6_turnsLink 26 = .ok (.iload_n 1, 1) := by decide +kernel
theorem dX6_turnsLink_27 : decode cX6_turnsLink 27 = .ok (.ishl, 1) := by decide +kernel
theorem dX6_turnsLink_28 : decode cX6_turnsLink 28 = .ok (.ixor, 1) := by decide +kernel
theorem dX6_turnsLink_29 : decode cX6_turnsLink 29 = .ok (.iastore, 1) := by decide +kernel
theorem dX6_turnsLink_30 : decode cX6_turnsLink 30 = .ok (.return_, 1) := by decide +kernel
theorem dX6_joins_0 : decode cX6_joins 0 = .ok (.aload_n 0, 1) := by decide +kernel
theorem dX6_joins_1 : decode cX6_joins 1 = .ok (.iload_n 1, 1) := by decide +kernel
theorem dX6_joins_2 : decode cX6_joins 2 = .ok (.invokevirtual 88, 3) := by decide +kernel
theorem dX6_joins_5 : decode cX6_joins 5 = .ok (.ifCond .eq 11, 3) := by decide +kernel
theorem dX6_joins_8 : decode cX6_joins 8 = .ok (.aload_n 0, 1) := by decide +kernel
theorem dX6_joins_9 : decode cX6_joins 9 = .ok (.iload_n 2, 1) := by decide +kernel
theorem dX6_joins_10 : decode cX6_joins 10 = .ok (.invokevirtual 88, 3) := by decide +kernel
theorem dX6_joins_13 : decode cX6_joins 13 = .ok (.ifCond .ne 9, 3) := by decide +kernel
theorem dX6_joins_16 : decode cX6_joins 16 = .ok (.aload_n 0, 1) := by decide +kernel
theorem dX6_joins_17 : decode cX6_joins 17 = .ok (.iconst 1, 1) := by decide +kernel
theorem dX6_joins_18 : decode cX6_joins 18 = .ok (.invokevirtual 72, 3) := by decide +kernel
theorem dX6_joins_21 : decode cX6_joins 21 = .ok (.ireturn, 1) := by decide +kernel
theorem dX6_joins_22 : decode cX6_joins 22 = .ok (.iload_n 1, 1) := by decide +kernel
theorem dX6_joins_23 : decode cX6_joins 23 = .ok (.iload_n 2, 1) := by decide +kernel
theorem dX6_joins_24 : decode cX6_joins 24 = .ok (.if_icmp .ne 9, 3) := by decide +kernel
theorem dX6_joins_27 : decode cX6_joins 27 = .ok (.aload_n 0, 1) := by decide +kernel
theorem dX6_joins_28 : decode cX6_joins 28 = .ok (.iconst 2, 1) := by decide +kernel
theorem dX6_joins_29 : decode cX6_joins 29 = .ok (.invokevirtual 72, 3) := by decide +kernel
theorem dX6_joins_32 : decode cX6_joins 32 = .ok (.ireturn, 1) := by decide +kernel
theorem dX6_joins_33 : decode cX6_joins 33 = .ok (.aload_n 0, 1) := by decide +kernel
theorem dX6_joins_34 : decode cX6_joins 34 = .ok (.getfield 16, 3) := by decide +kernel
theorem dX6_joins_37 : decode cX6_joins 37 = .ok (.bipush 29, 2) := by decide +kernel
theorem dX6_joins_39 : decode cX6_joins 39 = .ok (.iload_n 1, 1) := by decide +kernel
theorem dX6_joins_40 : decode cX6_joins 40 = .ok (.iadd, 1) := by decide +kernel
theorem dX6_joins_41 : decode cX6_joins 41 = .ok (.iaload, 1) := by decide +kernel
theorem dX6_joins_42 : decode cX6_joins 42 = .ok (.iload_n 2, 1) := by decide +kernel
theorem dX6_joins_43 : decode cX6_joins 43 = .ok (.invokestatic 91, 3) := by decide +kernel
theorem dX6_joins_46 : decode cX6_joins 46 = .ok (.ifCond .eq 9, 3) := by decide +kernel
theorem dX6_joins_49 : decode cX6_joins 49 = .ok (.aload_n 0, 1) := by decide +kernel
theorem dX6_joins_50 : decode cX6_joins 50 = .ok (.iconst 3, 1) := by decide +kernel
theorem dX6_joins_51 : decode cX6_joins 51 = .ok (.invokevirtual 72, 3) := by decide +kernel
theorem dX6_joins_54 : decode cX6_joins 54 = .ok (.ireturn, 1) := by decide +kernel
theorem dX6_joins_55 : decode cX6_joins 55 = .ok (.aload_n 0, 1) := by decide +kernel
theorem dX6_joins_56 : decode cX6_joins 56 = .ok (.iload_n 1, 1) := by decide +kernel
theorem dX6_joins_57 : decode cX6_joins 57 = .ok (.iload_n 2, 1) := by decide +kernel
theorem dX6_joins_58 : decode cX6_joins 58 = .ok (.invokevirtual 95, 3) := by decide +kernel
theorem dX6_joins_61 : decode cX6_joins 61 = .ok (.aload_n 0, 1) := by decide +kernel
theorem dX6_joins_62 : decode cX6_joins 62 = .ok (.invokevirtual 99, 3) := by decide +kernel
theorem dX6_joins_65 : decode cX6_joins 65 = .ok (.ireturn, 1) := by decide +kernel
theorem dX6_link_0 : decode cX6_link 0 = .ok (.aload_n 0, 1) := by decide +kernel
theorem dX6_link_1 : decode cX6_link 1 = .ok (.invokevirtual 76, 3) := by decide +kernel
theorem dX6_link_4 : decode cX6_link 4 = .ok (.aload_n 0, 1) := by decide +kernel
theorem dX6_link_5 : decode cX6_link 5 = .ok (.aload_n 0, 1) := by decide +kernel
theorem dX6_link_6 : decode cX6_link 6 = .ok (.iload_n 1, 1) := by decide +kernel
theorem dX6_link_7 : decode cX6_link 7 = .ok (.iload_n 2, 1) := by decide +kernel
theorem dX6_link_8 : decode cX6_link 8 = .ok (.invokevirtual 103, 3) := by decide +kernel
theorem dX6_link_11 : decode cX6_link 11 = .ok (.invokevirtual 82, 3) := by decide +kernel
theorem dX6_link_14 : decode cX6_link 14 = .ok (.ireturn, 1) := by decide +kernel
theorem dX6_cuts_0 : decode cX6_cuts 0 = .ok (.aload_n 0, 1) := by decide +kernel
theorem dX6_cuts_1 : decode cX6_cuts 1 = .ok (.iload_n 1, 1) := by decide +kernel
theorem dX6_cuts_2 : decode cX6_cuts 2 = .ok (.invokevirtual 88, 3) := by decide +kernel
theorem dX6_cuts_5 : decode cX6_cuts 5 = .ok (.ifCond .eq 11, 3) := by decide +kernel
theorem dX6_cuts_8 : decode cX6_cuts 8 = .ok (.aload_n 0, 1) := by decide +kernel
theorem dX6_cuts_9 : decode cX6_cuts 9 = .ok (.iload_n 2, 1) := by decide +kernel
theorem dX6_cuts_10 : decode cX6_cuts 10 = .ok (.invokevirtual 88, 3) := by decide +kernel
theorem dX6_cuts_13 : decode cX6_cuts 13 = .ok (.ifCond .ne 9, 3) := by decide +kernel
theorem dX6_cuts_16 : decode cX6_cuts 16 = .ok (.aload_n 0, 1) := by decide +kernel
theorem dX6_cuts_17 : decode cX6_cuts 17 = .ok (.iconst 1, 1) := by decide +kernel
theorem dX6_cuts_18 : decode cX6_cuts 18 = .ok (.invokevirtual 72, 3) := by decide +kernel
theorem dX6_cuts_21 : decode cX6_cuts 21 = .ok (.ireturn, 1) := by decide +kernel
theorem dX6_cuts_22 : decode cX6_cuts 22 = .ok (.aload_n 0, 1) := by decide +kernel
theorem dX6_cuts_23 : decode cX6_cuts 23 = .ok (.getfield 16, 3) := by decide +kernel
theorem dX6_cuts_26 : decode cX6_cuts 26 = .ok (.bipush 29, 2) := by decide +kernel
theorem dX6_cuts_28 : decode cX6_cuts 28 = .ok (.iload_n 1, 1) := by decide +kernel
theorem dX6_cuts_29 : decode cX6_cuts 29 = .ok (.iadd, 1) := by decide +kernel
theorem dX6_cuts_30 : decode cX6_cuts 30 = .ok (.iaload, 1) := by decide +kernel
theorem dX6_cuts_31 : decode cX6_cuts 31 = .ok (.iload_n 2, 1) := by decide +kernel
theorem dX6_cuts_32 : decode cX6_cuts 32 = .ok (.invokestatic 91, 3) := by decide +kernel
theorem dX6_cuts_35 : decode cX6_cuts 35 = .ok (.ifCond .ne 9, 3) := by decide +kernel
theorem dX6_cuts_38 : decode cX6_cuts 38 = .ok (.aload_n 0, 1) := by decide +kernel
theorem dX6_cuts_39 : decode cX6_cuts 39 = .ok (.iconst 2, 1) := by decide +kernel
theorem dX6_cuts_40 : decode cX6_cuts 40 = .ok (.invokevirtual 72, 3) := by decide +kernel
theorem dX6_cuts_43 : decode cX6_cuts 43 = .ok (.ireturn, 1) := by decide +kernel
theorem dX6_cuts_44 : decode cX6_cuts 44 = .ok (.aload_n 0, 1) := by decide +kernel
theorem dX6_cuts_45 : decode cX6_cuts 45 = .ok (.iload_n 1, 1) := by decide +kernel
theorem dX6_cuts_46 : decode cX6_cuts 46 = .ok (.iload_n 2, 1) := by decide +kernel
theorem dX6_cuts_47 : decode cX6_cuts 47 = .ok (.invokevirtual 95, 3) := by decide +kernel
theorem dX6_cuts_50 : decode cX6_cuts 50 = .ok (.aload_n 0, 1) := by decide +kernel
theorem dX6_cuts_51 : decode cX6_cuts 51 = .ok (.invokevirtual 99, 3) := by decide +kernel
theorem dX6_cuts_54 : decode cX6_cuts 54 = .ok (.ireturn, 1) := by decide +kernel
theorem dX6_unlink_0 : decode cX6_unlink 0 = .ok (.aload_n 0, 1) := by decide +kernel
theorem dX6_unlink_1 : decode cX6_unlink 1 = .ok (.invokevirtual 76, 3) := by decide +kernel
theorem dX6_unlink_4 : decode cX6_unlink 4 = .ok (.aload_n 0, 1) := by decide +kernel
theorem dX6_unlink_5 : decode cX6_unlink 5 = .ok (.aload_n 0, 1) := by decide +kernel
theorem dX6_unlink_6 : decode cX6_unlink 6 = .ok (.iload_n 1, 1) := by decide +kernel
theorem dX6_unlink_7 : decode cX6_unlink 7 = .ok (.iload_n 2, 1) := by decide +kernel
theorem dX6_unlink_8 : decode cX6_unlink 8 = .ok (.invokevirtual 106, 3) := by decide +kernel
theorem dX6_unlink_11 : decode cX6_unlink 11 = .ok (.invokevirtual 82, 3) := by decide +kernel
theorem dX6_unlink_14 : decode cX6_unlink 14 = .ok (.ireturn, 1) := by decide +kernel
theorem dX6_moves_0 : decode cX6_moves 0 = .ok (.aload_n 0, 1) := by decide +kernel
theorem dX6_moves_1 : decode cX6_moves 1 = .ok (.iload_n 1, 1) := by decide +kernel
theorem dX6_moves_2 : decode cX6_moves 2 = .ok (.invokevirtual 88, 3) := by decide +kernel
theorem dX6_moves_5 : decode cX6_moves 5 = .ok (.ifCond .ne 9, 3) := by decide +kernel
theorem dX6_moves_8 : decode cX6_moves 8 = .ok (.aload_n 0, 1) := by decide +kernel
theorem dX6_moves_9 : decode cX6_moves 9 = .ok (.iconst 1, 1) := by decide +kernel
theorem dX6_moves_10 : decode cX6_moves 10 = .ok (.invokevirtual 72, 3) := by decide +kernel
theorem dX6_moves_13 : decode cX6_moves 13 = .ok (.ireturn, 1) := by decide +kernel
theorem dX6_moves_14 : decode cX6_moves 14 = .ok (.iload_n 2, 1) := by decide +kernel
theorem dX6_moves_15 : decode cX6_moves 15 = .ok (.invokestatic 65, 3) := by decide +kernel
theorem dX6_moves_18 : decode cX6_moves 18 = .ok (.ifCond .ne 9, 3) := by decide +kernel
theorem dX6_moves_21 : decode cX6_moves 21 = .ok (.aload_n 0, 1) := by decide +kernel
theorem dX6_moves_22 : decode cX6_moves 22 = .ok (.iconst 2, 1) := by decide +kernel
theorem dX6_moves_23 : decode cX6_moves 23 = .ok (.invokevirtual 72, 3) := by decide +kernel
theorem dX6_moves_26 : decode cX6_moves 26 = .ok (.ireturn, 1) := by decide +kernel
theorem dX6_moves_27 : decode cX6_moves 27 = .ok (.aload_n 0, 1) := by decide +kernel
theorem dX6_moves_28 : decode cX6_moves 28 = .ok (.getfield 16, 3) := by decide +kernel
theorem dX6_moves_31 : decode cX6_moves 31 = .ok (.iconst 5, 1) := by decide +kernel
theorem dX6_moves_32 : decode cX6_moves 32 = .ok (.iload_n 1, 1) := by decide +kernel
theorem dX6_moves_33 : decode cX6_moves 33 = .ok (.iadd, 1) := by decide +kernel
theorem dX6_moves_34 : decode cX6_moves 34 = .ok (.iaload, 1) := by decide +kernel
theorem dX6_moves_35 : decode cX6_moves 35 = .ok (.istore_n 3, 1) := by decide +kernel
theorem dX6_moves_36 : decode cX6_moves 36 = .ok (.iload_n 3, 1) := by decide +kernel
theorem dX6_moves_37 : decode cX6_moves 37 = .ok (.iload_n 2, 1) := by decide +kernel
theorem dX6_moves_38 : decode cX6_moves 38 = .ok (.if_icmp .ne 9, 3) := by decide +kernel
theorem dX6_moves_41 : decode cX6_moves 41 = .ok (.aload_n 0, 1) := by decide +kernel
theorem dX6_moves_42 : decode cX6_moves 42 = .ok (.iconst 3, 1) := by decide +kernel
theorem dX6_moves_43 : decode cX6_moves 43 = .ok (.invokevirtual 72, 3) := by decide +kernel
theorem dX6_moves_46 : decode cX6_moves 46 = .ok (.ireturn, 1) := by decide +kernel
theorem dX6_moves_47 : decode cX6_moves 47 = .ok (.aload_n 0, 1) := by decide +kernel
theorem dX6_moves_48 : decode cX6_moves 48 = .ok (.getfield 16, 3) := by decide +kernel
theorem dX6_moves_51 : decode cX6_moves 51 = .ok (.iconst 5, 1) := by decide +kernel
theorem dX6_moves_52 : decode cX6_moves 52 = .ok (.iload_n 1, 1) := by decide +kernel
theorem dX6_moves_53 : decode cX6_moves 53 = .ok (.iadd, 1) := by decide +kernel
theorem dX6_moves_54 : decode cX6_moves 54 = .ok (.iload_n 2, 1) := by decide +kernel
theorem dX6_moves_55 : decode cX6_moves 55 = .ok (.iastore, 1) := by decide +kernel
theorem dX6_moves_56 : decode cX6_moves 56 = .ok (.iload_n 3, 1) := by decide +kernel
theorem dX6_moves_57 : decode cX6_moves 57 = .ok (.ireturn, 1) := by decide +kernel
theorem dX6_moveListener_0 : decode cX6_moveListener 0 = .ok (.aload_n 0, 1) := by decide +kernel
theorem dX6_moveListener_1 : decode cX6_moveListener 1 = .ok (.invokevirtual 76, 3) := by decide +kernel
theorem dX6_moveListener_4 : decode cX6_moveListener 4 = .ok (.aload_n 0, 1) := by decide +kernel
theorem dX6_moveListener_5 : decode cX6_moveListener 5 = .ok (.aload_n 0, 1) := by decide +kernel
theorem dX6_moveListener_6 : decode cX6_moveListener 6 = .ok (.iload_n 1, 1) := by decide +kernel
theorem dX6_moveListener_7 : decode cX6_moveListener 7 = .ok (.iload_n 2, 1) := by decide +kernel
theorem dX6_moveListener_8 : decode cX6_moveListener 8 = .ok (.invokevirtual 109, 3) := by decide +kernel
theorem dX6_moveListener_11 : decode cX6_moveListener 11 = .ok (.invokevirtual 82, 3) := by decide +kernel
theorem dX6_moveListener_14 : decode cX6_moveListener 14 = .ok (.ireturn, 1) := by decide +kernel
theorem dX6_starts_0 : decode cX6_starts 0 = .ok (.aload_n 0, 1) := by decide +kernel
theorem dX6_starts_1 : decode cX6_starts 1 = .ok (.iload_n 1, 1) := by decide +kernel
theorem dX6_starts_2 : decode cX6_starts 2 = .ok (.invokevirtual 88, 3) := by decide +kernel
theorem dX6_starts_5 : decode cX6_starts 5 = .ok (.ifCond .ne 9, 3) := by decide +kernel
theorem dX6_starts_8 : decode cX6_starts 8 = .ok (.aload_n 0, 1) := by decide +kernel
theorem dX6_starts_9 : decode cX6_starts 9 = .ok (.iconst 1, 1) := by decide +kernel
theorem dX6_starts_10 : decode cX6_starts 10 = .ok (.invokevirtual 72, 3) := by decide +kernel
theorem dX6_starts_13 : decode cX6_starts 13 = .ok (.ireturn, 1) := by decide +kernel
theorem dX6_starts_14 : decode cX6_starts 14 = .ok (.iload_n 2, 1) := by decide +kernel
theorem dX6_starts_15 : decode cX6_starts 15 = .ok (.invokestatic 69, 3) := by decide +kernel
theorem dX6_starts_18 : decode cX6_starts 18 = .ok (.ifCond .ne 9, 3) := by decide +kernel
theorem dX6_starts_21 : decode cX6_starts 21 = .ok (.aload_n 0, 1) := by decide +kernel
theorem dX6_starts_22 : decode cX6_starts 22 = .ok (.iconst 2, 1) := by decide +kernel
theorem dX6_starts_23 : decode cX6_starts 23 = .ok (.invokevirtual 72, 3) := by decide +kernel
theorem dX6_starts_26 : decode cX6_starts 26 = .ok (.ireturn, 1) := by decide +kernel
theorem dX6_starts_27 : decode cX6_starts 27 = .ok (.aload_n 0, 1) := by decide +kernel
theorem dX6_starts_28 : decode cX6_starts 28 = .ok (.getfield 16, 3) := by decide +kernel
theorem dX6_starts_31 : decode cX6_starts 31 = .ok (.iconst 1, 1) := by decide +kernel
theorem dX6_starts_32 : decode cX6_starts 32 = .ok (.iaload, 1) := by decide +kernel
theorem dX6_starts_33 : decode cX6_starts 33 = .ok (.istore_n 3, 1) := by decide +kernel
theorem dX6_starts_34 : decode cX6_starts 34 = .ok (.iload_n 3, 1) := by decide +kernel
theorem dX6_starts_35 : decode cX6_starts 35 = .ok (.iconst 4, 1) := by decide +kernel
theorem dX6_starts_36 : decode cX6_starts 36 = .ok (.if_icmp .ne 9, 3) := by decide +kernel
theorem dX6_starts_39 : decode cX6_starts 39 = .ok (.aload_n 0, 1) := by decide +kernel
theorem dX6_starts_40 : decode cX6_starts 40 = .ok (.iconst 3, 1) := by decide +kernel
theorem dX6_starts_41 : decode cX6_starts 41 = .ok (.invokevirtual 72, 3) := by decide +kernel
theorem dX6_starts_44 : decode cX6_starts 44 = .ok (.ireturn, 1) := by decide +kernel
theorem dX6_starts_45 : decode cX6_starts 45 = .ok (.aload_n 0, 1) := by decide +kernel
theorem dX6_starts_46 : decode cX6_starts 46 = .ok (.getfield 16, 3) := by decide +kernel
theorem dX6_starts_49 : decode cX6_starts 49 = .ok (.iload_n 3, 1) := by decide +kernel
theorem dX6_starts_50 : decode cX6_starts 50 = .ok (.iconst 0, 1) := by decide +kernel
theorem dX6_starts_51 : decode cX6_starts 51 = .ok (.invokestatic 61, 3) := by decide +kernel
theorem dX6_starts_54 : decode cX6_starts 54 = .ok (.iload_n 2, 1) := by decide +kernel
theorem dX6_starts_55 : decode cX6_starts 55 = .ok (.iastore, 1) := by decide +kernel
theorem dX6_starts_56 : decode cX6_starts 56 = .ok (.aload_n 0, 1) := by decide +kernel
theorem dX6_starts_57 : decode cX6_starts 57 = .ok (.getfield 16, 3) := by decide +kernel
theorem dX6_starts_60 : decode cX6_starts 60 = .ok (.iload_n 3, 1) := by decide +kernel
theorem dX6_starts_61 : decode cX6_starts 61 = .ok (.iconst 1, 1) := by decide +kernel
theorem dX6_starts_62 : decode cX6_starts 62 = .ok (.invokestatic 61, 3) := by decide +kernel
theorem dX6_starts_65 : decode cX6_starts 65 = .ok (.iconst 0, 1) := by decide +kernel
theorem dX6_starts_66 : decode cX6_starts 66 = .ok (.iastore, 1) := by decide +kernel
theorem dX6_starts_67 : decode cX6_starts 67 = .ok (.aload_n 0, 1) := by decide +kernel
theorem dX6_starts_68 : decode cX6_starts 68 = .ok (.getfield 16, 3) := by decide +kernel
theorem dX6_starts_71 : decode cX6_starts 71 = .ok (.iload_n 3, 1) := by decide +kernel
theorem dX6_starts_72 : decode cX6_starts 72 = .ok (.iconst 2, 1) := by decide +kernel
theorem dX6_starts_73 : decode cX6_starts 73 = .ok (.invokestatic 61, 3) := by decide +kernel
theorem dX6_starts_76 : decode cX6_starts 76 = .ok (.iload_n 1, 1) := by decide +kernel
theorem dX6_starts_77 : decode cX6_starts 77 = .ok (.iastore, 1) := by decide +kernel
theorem dX6_starts_78 : decode cX6_starts 78 = .ok (.aload_n 0, 1) := by decide +kernel
theorem dX6_starts_79 : decode cX6_starts 79 = .ok (.getfield 16, 3) := by decide +kernel
theorem dX6_starts_82 : decode cX6_starts 82 = .ok (.iload_n 3, 1) := by decide +kernel
theorem dX6_starts_83 : decode cX6_starts 83 = .ok (.iconst 3, 1) := by decide +kernel
theorem dX6_starts_84 : decode cX6_starts 84 = .ok (.invokestatic 61, 3) := by decide +kernel
theorem dX6_starts_87 : decode cX6_starts 87 = .ok (.iconst 1, 1) := by decide +kernel
theorem dX6_starts_88 : decode cX6_starts 88 = .ok (.iload_n 1, 1) := by decide +kernel
theorem dX6_starts_89 : decode cX6_starts 89 = .ok (.ishl, 1) := by decide +kernel
theorem dX6_starts_90 : decode cX6_starts 90 = .ok (.iastore, 1) := by decide +kernel
theorem dX6_starts_91 : decode cX6_starts 91 = .ok (.aload_n 0, 1) := by decide +kernel
theorem dX6_starts_92 : decode cX6_starts 92 = .ok (.getfield 16, 3) := by decide +kernel
theorem dX6_starts_95 : decode cX6_starts 95 = .ok (.iload_n 3, 1) := by decide +kernel
theorem dX6_starts_96 : decode cX6_starts 96 = .ok (.iconst 4, 1) := by decide +kernel
theorem dX6_starts_97 : decode cX6_starts 97 = .ok (.invokestatic 61, 3) := by decide +kernel
theorem dX6_starts_100 : decode cX6_starts 100 = .ok (.iconst 0, 1) := by decide +kernel
theorem dX6_starts_101 : decode cX6_starts 101 = .ok (.iastore, 1) := by decide +kernel
theorem dX6_starts_102 : decode cX6_starts 102 = .ok (.aload_n 0, 1) := by decide +kernel
theorem dX6_starts_103 : decode cX6_starts 103 = .ok (.getfield 16, 3) := by decide +kernel
theorem dX6_starts_106 : decode cX6_starts 106 = .ok (.bipush 61, 2) := by decide +kernel
theorem dX6_starts_108 : decode cX6_starts 108 = .ok (.bipush 12, 2) := by decide +kernel
theorem dX6_starts_110 : decode cX6_starts 110 = .ok (.iload_n 3, 1) := by decide +kernel
theorem dX6_starts_111 : decode cX6_starts 111 = .ok (.imul, 1) := by decide +kernel
theorem dX6_starts_112 : decode cX6_starts 112 = .ok (.iadd, 1) := by decide +kernel
theorem dX6_starts_113 : decode cX6_starts 113 = .ok (.iload_n 1, 1) := by decide +kernel
theorem dX6_starts_114 : decode cX6_starts 114 = .ok (.iadd, 1) := by decide +kernel
theorem dX6_starts_115 : decode cX6_starts 115 = .ok (.aload_n 0, 1) := by decide +kernel
theorem dX6_starts_116 : decode cX6_starts 116 = .ok (.getfield 16, 3) := by decide +kernel
theorem dX6_starts_119 : decode cX6_starts 119 = .ok (.iconst 2, 1) := by decide +kernel
theorem dX6_starts_120 : decode cX6_starts 120 = .ok (.iaload, 1) := by decide +kernel
theorem dX6_starts_121 : decode cX6_starts 121 = .ok (.iastore, 1) := by decide +kernel
theorem dX6_starts_122 : decode cX6_starts 122 = .ok (.aload_n 0, 1) := by decide +kernel
theorem dX6_starts_123 : decode cX6_starts 123 = .ok (.getfield 16, 3) := by decide +kernel
theorem dX6_starts_126 : decode cX6_starts 126 = .ok (.iconst 1, 1) := by decide +kernel
theorem dX6_starts_127 : decode cX6_starts 127 = .ok (.dup2, 1) := by decide +kernel
theorem dX6_starts_128 : decode cX6_starts 128 = .ok (.iaload, 1) := by decide +kernel
theorem dX6_starts_129 : decode cX6_starts 129 = .ok (.iconst 1, 1) := by decide +kernel
theorem dX6_starts_130 : decode cX6_starts 130 = .ok (.iadd, 1) := by decide +kernel
theorem dX6_starts_131 : decode cX6_starts 131 = .ok (.iastore, 1) := by decide +kernel
theorem dX6_starts_132 : decode cX6_starts 132 = .ok (.iload_n 3, 1) := by decide +kernel
theorem dX6_starts_133 : decode cX6_starts 133 = .ok (.ireturn, 1) := by decide +kernel
theorem dX6_startRumour_0 : decode cX6_startRumour 0 = .ok (.aload_n 0, 1) := by decide +kernel
theorem dX6_startRumour_1 : decode cX6_startRumour 1 = .ok (.invokevirtual 76, 3) := by decide +kernel
theorem dX6_startRumour_4 : decode cX6_startRumour 4 = .ok (.aload_n 0, 1) := by decide +kernel
theorem dX6_startRumour_5 : decode cX6_startRumour 5 = .ok (.aload_n 0, 1) := by decide +kernel
theorem dX6_startRumour_6 : decode cX6_startRumour 6 = .ok (.iload_n 1, 1) := by decide +kernel
theorem dX6_startRumour_7 : decode cX6_startRumour 7 = .ok (.iload_n 2, 1) := by decide +kernel
theorem dX6_startRumour_8 : decode cX6_startRumour 8 = .ok (.invokevirtual 112, 3) := by decide +kernel
theorem dX6_startRumour_11 : decode cX6_startRumour 11 = .ok (.invokevirtual 82, 3) := by decide +kernel
theorem dX6_startRumour_14 : decode cX6_startRumour 14 = .ok (.ireturn, 1) := by decide +kernel
theorem dX6_checks_0 : decode cX6_checks 0 = .ok (.aload_n 0, 1) := by decide +kernel
theorem dX6_checks_1 : decode cX6_checks 1 = .ok (.iload_n 1, 1) := by decide +kernel
theorem dX6_checks_2 : decode cX6_checks 2 = .ok (.invokevirtual 115, 3) := by decide +kernel
theorem dX6_checks_5 : decode cX6_checks 5 = .ok (.ifCond .eq 11, 3) := by decide +kernel
theorem dX6_checks_8 : decode cX6_checks 8 = .ok (.aload_n 0, 1) := by decide +kernel
theorem dX6_checks_9 : decode cX6_checks 9 = .ok (.iload_n 2, 1) := by decide +kernel
theorem dX6_checks_10 : decode cX6_checks 10 = .ok (.invokevirtual 88, 3) := by decide +kernel
theorem dX6_checks_13 : decode cX6_checks 13 = .ok (.ifCond .ne 9, 3) := by decide +kernel
theorem dX6_checks_16 : decode cX6_checks 16 = .ok (.aload_n 0, 1) := by decide +kernel
theorem dX6_checks_17 : decode cX6_checks 17 = .ok (.iconst 1, 1) := by decide +kernel
theorem dX6_checks_18 : decode cX6_checks 18 = .ok (.invokevirtual 72, 3) := by decide +kernel
theorem dX6_checks_21 : decode cX6_checks 21 = .ok (.ireturn, 1) := by decide +kernel
theorem dX6_checks_22 : decode cX6_checks 22 = .ok (.aload_n 0, 1) := by decide +kernel
theorem dX6_checks_23 : decode cX6_checks 23 = .ok (.getfield 16, 3) := by decide +kernel
theorem dX6_checks_26 : decode cX6_checks 26 = .ok (.iload_n 1, 1) := by decide +kernel
theorem dX6_checks_27 : decode cX6_checks 27 = .ok (.iconst 3, 1) := by decide +kernel
theorem dX6_checks_28 : decode cX6_checks 28 = .ok (.invokestatic 61, 3) := by decide +kernel
theorem dX6_checks_31 : decode cX6_checks 31 = .ok (.iaload, 1) := by decide +kernel
theorem dX6_checks_32 : decode cX6_checks 32 = .ok (.iload_n 2, 1) := by decide +kernel
theorem dX6_checks_33 : decode cX6_checks 33 = .ok (.invokestatic 91, 3) := by decide +kernel
theorem dX6_checks_36 : decode cX6_checks 36 = .ok (.ifCond .ne 9, 3) := by decide +kernel
theorem dX6_checks_39 : decode cX6_checks 39 = .ok (.aload_n 0, 1) := by decide +kernel
theorem dX6_checks_40 : decode cX6_checks 40 = .ok (.iconst 2, 1) := by decide +kernel
theorem dX6_checks_41 : decode cX6_checks 41 = .ok (.invokevirtual 72, 3) := by decide +kernel
theorem dX6_checks_44 : decode cX6_checks 44 = .ok (.ireturn, 1) := by decide +kernel
theorem dX6_checks_45 : decode cX6_checks 45 = .ok (.aload_n 0, 1) := by decide +kernel
theorem dX6_checks_46 : decode cX6_checks 46 = .ok (.getfield 16, 3) := by decide +kernel
theorem dX6_checks_49 : decode cX6_checks 49 = .ok (.bipush 17, 2) := by decide +kernel
theorem dX6_checks_51 : decode cX6_checks 51 = .ok (.iload_n 2, 1) := by decide +kernel
theorem dX6_checks_52 : decode cX6_checks 52 = .ok (.iadd, 1) := by decide +kernel
theorem dX6_checks_53 : decode cX6_checks 53 = .ok (.iaload, 1) := by decide +kernel
theorem dX6_checks_54 : decode cX6_checks 54 = .ok (.aload_n 0, 1) := by decide +kernel
theorem dX6_checks_55 : decode cX6_checks 55 = .ok (.getfield 16, 3) := by decide +kernel
theorem dX6_checks_58 : decode cX6_checks 58 = .ok (.iload_n 1, 1) := by decide +kernel
theorem dX6_checks_59 : decode cX6_checks 59 = .ok (.iconst 0, 1) := by decide +kernel
theorem dX6_checks_60 : decode cX6_checks 60 = .ok (.invokestatic 61, 3) := by decide +kernel
theorem dX6_checks_63 : decode cX6_checks 63 = .ok (.iaload, 1) := by decide +kernel
theorem dX6_checks_64 : decode cX6_checks 64 = .ok (.if_icmp .gt 5, 3) := by decide +kernel
theorem dX6_checks_67 : decode cX6_checks 67 = .ok (.iconst 0, 1) := by decide +kernel
theorem dX6_checks_68 : decode cX6_checks 68 = .ok (.ireturn, 1) := by decide +kernel
theorem dX6_checks_69 : decode cX6_checks 69 = .ok (.aload_n 0, 1) := by decide +kernel
theorem dX6_checks_70 : decode cX6_checks 70 = .ok (.getfield 16, 3) := by decide +kernel
theorem dX6_checks_73 : decode cX6_checks 73 = .ok (.iload_n 1, 1) := by decide +kernel
theorem dX6_checks_74 : decode cX6_checks 74 = .ok (.iconst 3, 1) := by decide +kernel
theorem dX6_checks_75 : decode cX6_checks 75 = .ok (.invokestatic 61, 3) := by decide +kernel
theorem dX6_checks_78 : decode cX6_checks 78 = .ok (.dup2, 1) := by decide +kernel
theorem dX6_checks_79 : decode cX6_checks 79 = .ok (.iaload, 1) := by decide +kernel
theorem dX6_checks_80 : decode cX6_checks 80 = .ok (.iconst 1, 1) := by decide +kernel
theorem dX6_checks_81 : decode cX6_checks 81 = .ok (.iload_n 2, 1) := by decide +kernel
theorem dX6_checks_82 : decode cX6_checks 82 = .ok (.ishl, 1) := by decide +kernel
theorem dX6_checks_83 : decode cX6_checks 83 = .ok (.ixor, 1) := by decide +kernel
theorem dX6_checks_84 : decode cX6_checks 84 = .ok (.iastore, 1) := by decide +kernel
theorem dX6_checks_85 : decode cX6_checks 85 = .ok (.aload_n 0, 1) := by decide +kernel
theorem dX6_checks_86 : decode cX6_checks 86 = .ok (.getfield 16, 3) := by decide +kernel
theorem dX6_checks_89 : decode cX6_checks 89 = .ok (.iload_n 1, 1) := by decide +kernel
theorem dX6_checks_90 : decode cX6_checks 90 = .ok (.iconst 4, 1) := by decide +kernel
theorem dX6_checks_91 : decode cX6_checks 91 = .ok (.invokestatic 61, 3) := by decide +kernel
theorem dX6_checks_94 : decode cX6_checks 94 = .ok (.dup2, 1) := by decide +kernel
theorem dX6_checks_95 : decode cX6_checks 95 = .ok (.iaload, 1) := by decide +kernel
theorem dX6_checks_96 : decode cX6_checks 96 = .ok (.iconst 1, 1) := by decide +kernel
theorem dX6_checks_97 : decode cX6_checks 97 = .ok (.iload_n 2, 1) := by decide +kernel
theorem dX6_checks_98 : decode cX6_checks 98 = .ok (.ishl, 1) := by decide +kernel
theorem dX6_checks_99 : decode cX6_checks 99 = .ok (.ior, 1) := by decide +kernel
theorem dX6_checks_100 : decode cX6_checks 100 = .ok (.iastore, 1) := by decide +kernel
theorem dX6_checks_101 : decode cX6_checks 101 = .ok (.aload_n 0, 1) := by decide +kernel
theorem dX6_checks_102 : decode cX6_checks 102 = .ok (.getfield 16, 3) := by decide +kernel
theorem dX6_checks_105 : decode cX6_checks 105 = .ok (.iconst 4, 1) := by decide +kernel
theorem dX6_checks_106 : decode cX6_checks 106 = .ok (.dup2, 1) := by decide +kernel
theorem dX6_checks_107 : decode cX6_checks 107 = .ok (.iaload, 1) := by decide +kernel
theorem dX6_checks_108 : decode cX6_checks 108 = .ok (.iconst 1, 1) := by decide +kernel
theorem dX6_checks_109 : decode cX6_checks 109 = .ok (.iadd, 1) := by decide +kernel
theorem dX6_checks_110 : decode cX6_checks 110 = .ok (.iastore, 1) := by decide +kernel
theorem dX6_checks_111 : decode cX6_checks 111 = .ok (.iconst 1, 1) := by decide +kernel
theorem dX6_checks_112 : decode cX6_checks 112 = .ok (.ireturn, 1) := by decide +kernel
theorem dX6_check_0 : decode cX6_check 0 = .ok (.aload_n 0, 1) := by decide +kernel
theorem dX6_check_1 : decode cX6_check 1 = .ok (.invokevirtual 76, 3) := by decide +kernel
theorem dX6_check_4 : decode cX6_check 4 = .ok (.aload_n 0, 1) := by decide +kernel
theorem dX6_check_5 : decode cX6_check 5 = .ok (.aload_n 0, 1) := by decide +kernel
theorem dX6_check_6 : decode cX6_check 6 = .ok (.iload_n 1, 1) := by decide +kernel
theorem dX6_check_7 : decode cX6_check 7 = .ok (.iload_n 2, 1) := by decide +kernel
theorem dX6_check_8 : decode cX6_check 8 = .ok (.invokevirtual 118, 3) := by decide +kernel
theorem dX6_check_11 : decode cX6_check 11 = .ok (.invokevirtual 82, 3) := by decide +kernel
theorem dX6_check_14 : decode cX6_check 14 = .ok (.iconst 1, 1) := by decide +kernel
theorem dX6_check_15 : decode cX6_check 15 = .ok (.if_icmp .ne 7, 3) := by decide +kernel
theorem dX6_check_18 : decode cX6_check 18 = .ok (.iconst 1, 1) := by decide +kernel
theorem dX6_check_19 : decode cX6_check 19 = .ok (.goto 4, 3) := by decide +kernel
theorem dX6_check_22 : decode cX6_check 22 = .ok (.iconst 0, 1) := by decide +kernel
theorem dX6_check_23 : decode cX6_check 23 = .ok (.ireturn, 1) := by decide +kernel
theorem dX6_denies_0 : decode cX6_denies 0 = .ok (.aload_n 0, 1) := by decide +kernel
theorem dX6_denies_1 : decode cX6_denies 1 = .ok (.iload_n 1, 1) := by decide +kernel
theorem dX6_denies_2 : decode cX6_denies 2 = .ok (.invokevirtual 115, 3) := by decide +kernel
theorem dX6_denies_5 : decode cX6_denies 5 = .ok (.ifCond .ne 9, 3) := by decide +kernel
theorem dX6_denies_8 : decode cX6_denies 8 = .ok (.aload_n 0, 1) := by decide +kernel
theorem dX6_denies_9 : decode cX6_denies 9 = .ok (.iconst 1, 1) := by decide +kernel
theorem dX6_denies_10 : decode cX6_denies 10 = .ok (.invokevirtual 72, 3) := by decide +kernel
theorem dX6_denies_13 : decode cX6_denies 13 = .ok (.ireturn, 1) := by decide +kernel
theorem dX6_denies_14 : decode cX6_denies 14 = .ok (.aload_n 0, 1) := by decide +kernel
theorem dX6_denies_15 : decode cX6_denies 15 = .ok (.getfield 16, 3) := by decide +kernel
theorem dX6_denies_18 : decode cX6_denies 18 = .ok (.iload_n 1, 1) := by decide +kernel
theorem dX6_denies_19 : decode cX6_denies 19 = .ok (.iconst 1, 1) := by decide +kernel
theorem dX6_denies_20 : decode cX6_denies 20 = .ok (.invokestatic 61, 3) := by decide +kernel
theorem dX6_denies_23 : decode cX6_denies 23 = .ok (.iaload, 1) := by decide +kernel
theorem dX6_denies_24 : decode cX6_denies 24 = .ok (.iconst 1, 1) := by decide +kernel
theorem dX6_denies_25 : decode cX6_denies 25 = .ok (.if_icmp .ne 9, 3) := by decide +kernel
theorem dX6_denies_28 : decode cX6_denies 28 = .ok (.aload_n 0, 1) := by decide +kernel
theorem dX6_denies_29 : decode cX6_denies 29 = .ok (.iconst 2, 1) := by decide +kernel
theorem dX6_denies_30 : decode cX6_denies 30 = .ok (.invokevirtual 72, 3) := by decide +kernel
theorem dX6_denies_33 : decode cX6_denies 33 = .ok (.ireturn, 1) := by decide +kernel
theorem dX6_denies_34 : decode cX6_denies 34 = .ok (.aload_n 0, 1) := by decide +kernel
theorem dX6_denies_35 : decode cX6_denies 35 = .ok (.getfield 16, 3) := by decide +kernel
theorem dX6_denies_38 : decode cX6_denies 38 = .ok (.iload_n 1, 1) := by decide +kernel
theorem dX6_denies_39 : decode cX6_denies 39 = .ok (.iconst 1, 1) := by decide +kernel
theorem dX6_denies_40 : decode cX6_denies 40 = .ok (.invokestatic 61, 3) := by decide +kernel
theorem dX6_denies_43 : decode cX6_denies 43 = .ok (.iconst 1, 1) := by decide +kernel
theorem dX6_denies_44 : decode cX6_denies 44 = .ok (.iastore, 1) := by decide +kernel
theorem dX6_denies_45 : decode cX6_denies 45 = .ok (.aload_n 0, 1) := by decide +kernel
theorem dX6_denies_46 : decode cX6_denies 46 = .ok (.getfield 16, 3) := by decide +kernel
theorem dX6_denies_49 : decode cX6_denies 49 = .ok (.iload_n 1, 1) := by decide +kernel
theorem dX6_denies_50 : decode cX6_denies 50 = .ok (.iconst 3, 1) := by decide +kernel
theorem dX6_denies_51 : decode cX6_denies 51 = .ok (.invokestatic 61, 3) := by decide +kernel
theorem dX6_denies_54 : decode cX6_denies 54 = .ok (.iaload, 1) := by decide +kernel
theorem dX6_denies_55 : decode cX6_denies 55 = .ok (.invokestatic 85, 3) := by decide +kernel
theorem dX6_denies_58 : decode cX6_denies 58 = .ok (.ireturn, 1) := by decide +kernel
theorem dX6_deny_0 : decode cX6_deny 0 = .ok (.aload_n 0, 1) := by decide +kernel
theorem dX6_deny_1 : decode cX6_deny 1 = .ok (.invokevirtual 76, 3) := by decide +kernel
theorem dX6_deny_4 : decode cX6_deny 4 = .ok (.aload_n 0, 1) := by decide +kernel
theorem dX6_deny_5 : decode cX6_deny 5 = .ok (.aload_n 0, 1) := by decide +kernel
theorem dX6_deny_6 : decode cX6_deny 6 = .ok (.iload_n 1, 1) := by decide +kernel
theorem dX6_deny_7 : decode cX6_deny 7 = .ok (.invokevirtual 121, 3) := by decide +kernel
theorem dX6_deny_10 : decode cX6_deny 10 = .ok (.invokevirtual 82, 3) := by decide +kernel
theorem dX6_deny_13 : decode cX6_deny 13 = .ok (.ireturn, 1) := by decide +kernel
theorem dX6_answers_0 : decode cX6_answers 0 = .ok (.aload_n 0, 1) := by decide +kernel
theorem dX6_answers_1 : decode cX6_answers 1 = .ok (.iload_n 1, 1) := by decide +kernel
theorem dX6_answers_2 : decode cX6_answers 2 = .ok (.invokevirtual 115, 3) := by decide +kernel
theorem dX6_answers_5 : decode cX6_answers 5 = .ok (.ifCond .ne 9, 3) := by decide +kernel
theorem dX6_answers_8 : decode cX6_answers 8 = .ok (.aload_n 0, 1) := by decide +kernel
theorem dX6_answers_9 : decode cX6_answers 9 = .ok (.iconst 1, 1) := by decide +kernel
theorem dX6_answers_10 : decode cX6_answers 10 = .ok (.invokevirtual 72, 3) := by decide +kernel
theorem dX6_answers_13 : decode cX6_answers 13 = .ok (.ireturn, 1) := by decide +kernel
theorem dX6_answers_14 : decode cX6_answers 14 = .ok (.iload_n 2, 1) := by decide +kernel
theorem dX6_answers_15 : decode cX6_answers 15 = .ok (.invokestatic 69, 3) := by decide +kernel
theorem dX6_answers_18 : decode cX6_answers 18 = .ok (.ifCond .ne 9, 3) := by decide +kernel
theorem dX6_answers_21 : decode cX6_answers 21 = .ok (.aload_n 0, 1) := by decide +kernel
theorem dX6_answers_22 : decode cX6_answers 22 = .ok (.iconst 2, 1) := by decide +kernel
theorem dX6_answers_23 : decode cX6_answers 23 = .ok (.invokevirtual 72, 3) := by decide +kernel
theorem dX6_answers_26 : decode cX6_answers 26 = .ok (.ireturn, 1) := by decide +kernel
theorem dX6_answers_27 : decode cX6_answers 27 = .ok (.aload_n 0, 1) := by decide +kernel
theorem dX6_answers_28 : decode cX6_answers 28 = .ok (.getfield 16, 3) := by decide +kernel
theorem dX6_answers_31 : decode cX6_answers 31 = .ok (.iload_n 1, 1) := by decide +kernel
theorem dX6_answers_32 : decode cX6_answers 32 = .ok (.iconst 0, 1) := by decide +kernel
theorem dX6_answers_33 : decode cX6_answers 33 = .ok (.invokestatic 61, 3) := by decide +kernel
theorem dX6_answers_36 : decode cX6_answers 36 = .ok (.iaload, 1) := by decide +kernel
theorem dX6_answers_37 : decode cX6_answers 37 = .ok (.istore_n 3, 1) := by decide +kernel
theorem dX6_answers_38 : decode cX6_answers 38 = .ok (.aload_n 0, 1) := by decide +kernel
theorem dX6_answers_39 : decode cX6_answers 39 = .ok (.getfield 16, 3) := by decide +kernel
theorem dX6_answers_42 : decode cX6_answers 42 = .ok (.iload_n 1, 1) := by decide +kernel
theorem dX6_answers_43 : decode cX6_answers 43 = .ok (.iconst 1, 1) := by decide +kernel
theorem dX6_answers_44 : decode cX6_answers 44 = .ok (.invokestatic 61, 3) := by decide +kernel
theorem dX6_answers_47 : decode cX6_answers 47 = .ok (.iaload, 1) := by decide +kernel
theorem dX6_answers_48 : decode cX6_answers 48 = .ok (.ifCond .ne 9, 3) := by decide +kernel
theorem dX6_answers_51 : decode cX6_answers 51 = .ok (.aload_n 0, 1) := by decide +kernel
theorem dX6_answers_52 : decode cX6_answers 52 = .ok (.iconst 3, 1) := by decide +kernel
theorem dX6_answers_53 : decode cX6_answers 53 = .ok (.invokevirtual 72, 3) := by decide +kernel
theorem dX6_answers_56 : decode cX6_answers 56 = .ok (.ireturn, 1) := by decide +kernel
theorem dX6_answers_57 : decode cX6_answers 57 = .ok (.aload_n 0, 1) := by decide +kernel
theorem dX6_answers_58 : decode cX6_answers 58 = .ok (.getfield 16, 3) := by decide +kernel
theorem dX6_answers_61 : decode cX6_answers 61 = .ok (.iload_n 1, 1) := by decide +kernel
theorem dX6_answers_62 : decode cX6_answers 62 = .ok (.iconst 1, 1) := by decide +kernel
theorem dX6_answers_63 : decode cX6_answers 63 = .ok (.invokestatic 61, 3) := by decide +kernel
theorem dX6_answers_66 : decode cX6_answers 66 = .ok (.iconst 0, 1) := by decide +kernel
theorem dX6_answers_67 : decode cX6_answers 67 = .ok (.iastore, 1) := by decide +kernel
theorem dX6_answers_68 : decode cX6_answers 68 = .ok (.aload_n 0, 1) := by decide +kernel
theorem dX6_answers_69 : decode cX6_answers 69 = .ok (.getfield 16, 3) := by decide +kernel
theorem dX6_answers_72 : decode cX6_answers 72 = .ok (.iload_n 1, 1) := by decide +kernel
theorem dX6_answers_73 : decode cX6_answers 73 = .ok (.iconst 0, 1) := by decide +kernel
theorem dX6_answers_74 : decode cX6_answers 74 = .ok (.invokestatic 61, 3) := by decide +kernel
theorem dX6_answers_77 : decode cX6_answers 77 = .ok (.iload_n 2, 1) := by decide +kernel
theorem dX6_answers_78 : decode cX6_answers 78 = .ok (.iastore, 1) := by decide +kernel
theorem dX6_answers_79 : decode cX6_answers 79 = .ok (.iload_n 3, 1) := by decide +kernel
theorem dX6_answers_80 : decode cX6_answers 80 = .ok (.ireturn, 1) := by decide +kernel
theorem dX6_answer_0 : decode cX6_answer 0 = .ok (.aload_n 0, 1) := by decide +kernel
theorem dX6_answer_1 : decode cX6_answer 1 = .ok (.invokevirtual 76, 3) := by decide +kernel
theorem dX6_answer_4 : decode cX6_answer 4 = .ok (.aload_n 0, 1) := by decide +kernel
theorem dX6_answer_5 : decode cX6_answer 5 = .ok (.aload_n 0, 1) := by decide +kernel
theorem dX6_answer_6 : decode cX6_answer 6 = .ok (.iload_n 1, 1) := by decide +kernel
theorem dX6_answer_7 : decode cX6_answer 7 = .ok (.iload_n 2, 1) := by decide +kernel
theorem dX6_answer_8 : decode cX6_answer 8 = .ok (.invokevirtual 124, 3) := by decide +kernel
theorem dX6_answer_11 : decode cX6_answer 11 = .ok (.invokevirtual 82, 3) := by decide +kernel
theorem dX6_answer_14 : decode cX6_answer 14 = .ok (.ireturn, 1) := by decide +kernel
theorem dX6_hears_0 : decode cX6_hears 0 = .ok (.iconst 0, 1) := by decide +kernel
theorem dX6_hears_1 : decode cX6_hears 1 = .ok (.istore_n 2, 1) := by decide +kernel
theorem dX6_hears_2 : decode cX6_hears 2 = .ok (.iconst 0, 1) := by decide +kernel
theorem dX6_hears_3 : decode cX6_hears 3 = .ok (.istore_n 3, 1) := by decide +kernel
theorem dX6_hears_4 : decode cX6_hears 4 = .ok (.iload_n 3, 1) := by decide +kernel
theorem dX6_hears_5 : decode cX6_hears 5 = .ok (.aload_n 0, 1) := by decide +kernel
theorem dX6_hears_6 : decode cX6_hears 6 = .ok (.getfield 16, 3) := by decide +kernel
theorem dX6_hears_9 : decode cX6_hears 9 = .ok (.iconst 0, 1) := by decide +kernel
theorem dX6_hears_10 : decode cX6_hears 10 = .ok (.iaload, 1) := by decide +kernel
theorem dX6_hears_11 : decode cX6_hears 11 = .ok (.if_icmp .ge 54, 3) := by decide +kernel
theorem dX6_hears_14 : decode cX6_hears 14 = .ok (.iload_n 2, 1) := by decide +kernel
theorem dX6_hears_15 : decode cX6_hears 15 = .ok (.aload_n 0, 1) := by decide +kernel
theorem dX6_hears_16 : decode cX6_hears 16 = .ok (.iload_n 1, 1) := by decide +kernel
theorem dX6_hears_17 : decode cX6_hears 17 = .ok (.invokevirtual 127, 3) := by decide +kernel
theorem dX6_hears_20 : decode cX6_hears 20 = .ok (.iload_n 3, 1) := by decide +kernel
theorem dX6_hears_21 : decode cX6_hears 21 = .ok (.invokestatic 91, 3) := by decide +kernel
theorem dX6_hears_24 : decode cX6_hears 24 = .ok (.ifCond .ne 32, 3) := by decide +kernel
theorem dX6_hears_27 : decode cX6_hears 27 = .ok (.aload_n 0, 1) := by decide +kernel
theorem dX6_hears_28 : decode cX6_hears 28 = .ok (.getfield 16, 3) := by decide +kernel
theorem dX6_hears_31 : decode cX6_hears 31 = .ok (.bipush 29, 2) := by decide +kernel
theorem dX6_hears_33 : decode cX6_hears 33 = .ok (.iload_n 3, 1) := by decide +kernel
theorem dX6_hears_34 : decode cX6_hears 34 = .ok (.iadd, 1) := by decide +kernel
theorem dX6_hears_35 : decode cX6_hears 35 = .ok (.iaload, 1) := by decide +kernel
theorem dX6_hears_36 : decode cX6_hears 36 = .ok (.aload_n 0, 1) := by decide +kernel
theorem dX6_hears_37 : decode cX6_hears 37 = .ok (.getfield 16, 3) := by decide +kernel
theorem dX6_hears_40 : decode cX6_hears 40 = .ok (.iload_n 1, 1) := by decide +kernel
theorem dX6_hears_41 : decode cX6_hears 41 = .ok (.iconst 3, 1) := by decide +kernel
theorem dX6_hears_42 : decode cX6_hears 42 = .ok (.invokestatic 61, 3) := by decide +kernel
theorem dX6_hears_45 : decode cX6_hears 45 = .ok (.iaload, 1) := by decide +kernel
theorem dX6_hears_46 : decode cX6_hears 46 = .ok (.iand, 1) := by decide +kernel
theorem dX6_hears_47 : decode cX6_hears 47 = .ok (.ifCond .eq 9, 3) := by decide +kernel
theorem dX6_hears_50 : decode cX6_hears 50 = .ok (.iconst 1, 1) := by decide +kernel
theorem dX6_hears_51 : decode cX6_hears 51 = .ok (.iload_n 3, 1) := by decide +kernel
theorem dX6_hears_52 : decode cX6_hears 52 = .ok (.ishl, 1) := by decide +kernel
theorem dX6_hears_53 : decode cX6_hears 53 = .ok (.goto 4, 3) := by decide +kernel
theorem dX6_hears_56 : decode cX6_hears 56 = .ok (.iconst 0, 1) := by decide +kernel
theorem dX6_hears_57 : decode cX6_hears 57 = .ok (.ior, 1) := by decide +kernel
theorem dX6_hears_58 : decode cX6_hears 58 = .ok (.istore_n 2, 1) := by decide +kernel
theorem dX6_hears_59 : decode cX6_hears 59 = .ok (.iinc 3 1, 3) := by decide +kernel
theorem dX6_hears_62 : decode cX6_hears 62 = .ok (.goto (-58), 3) := by decide +kernel
theorem dX6_hears_65 : decode cX6_hears 65 = .ok (.aload_n 0, 1) := by decide +kernel
theorem dX6_hears_66 : decode cX6_hears 66 = .ok (.getfield 16, 3) := by decide +kernel
theorem dX6_hears_69 : decode cX6_hears 69 = .ok (.iload_n 1, 1) := by decide +kernel
theorem dX6_hears_70 : decode cX6_hears 70 = .ok (.iconst 1, 1) := by decide +kernel
theorem dX6_hears_71 : decode cX6_hears 71 = .ok (.invokestatic 61, 3) := by decide +kernel
theorem dX6_hears_74 : decode cX6_hears 74 = .ok (.iaload, 1) := by decide +kernel
theorem dX6_hears_75 : decode cX6_hears 75 = .ok (.iconst 1, 1) := by decide +kernel
theorem dX6_hears_76 : decode cX6_hears 76 = .ok (.if_icmp .ne 7, 3) := by decide +kernel
theorem dX6_hears_79 : decode cX6_hears 79 = .ok (.iconst 0, 1) := by decide +kernel
theorem dX6_hears_80 : decode cX6_hears 80 = .ok (.goto 4, 3) := by decide +kernel
theorem dX6_hears_83 : decode cX6_hears 83 = .ok (.iload_n 2, 1) := by decide +kernel
theorem dX6_hears_84 : decode cX6_hears 84 = .ok (.ireturn, 1) := by decide +kernel
theorem dX6_believes_0 : decode cX6_believes 0 = .ok (.iconst 0, 1) := by decide +kernel
theorem dX6_believes_1 : decode cX6_believes 1 = .ok (.istore_n 2, 1) := by decide +kernel
theorem dX6_believes_2 : decode cX6_believes 2 = .ok (.aload_n 0, 1) := by decide +kernel
theorem dX6_believes_3 : decode cX6_believes 3 = .ok (.iload_n 1, 1) := by decide +kernel
theorem dX6_believes_4 : decode cX6_believes 4 = .ok (.invokevirtual 130, 3) := by decide +kernel
theorem dX6_believes_7 : decode cX6_believes 7 = .ok (.istore_n 3, 1) := by decide +kernel
theorem dX6_believes_8 : decode cX6_believes 8 = .ok (.iconst 0, 1) := by decide +kernel
theorem dX6_believes_9 : decode cX6_believes 9 = .ok (.istore 4, 2) := by decide +kernel
theorem dX6_believes_11 : decode cX6_believes 11 = .ok (.iload 4, 2) := by decide +kernel
theorem dX6_believes_13 : decode cX6_believes 13 = .ok (.aload_n 0, 1) := by decide +kernel
theorem dX6_believes_14 : decode cX6_believes 14 = .ok (.getfield 16, 3) := by decide +kernel
theorem dX6_believes_17 : decode cX6_believes 17 = .ok (.iconst 0, 1) := by decide +kernel
theorem dX6_believes_18 : decode cX6_believes 18 = .ok (.iaload, 1) := by decide +kernel
theorem dX6_believes_19 : decode cX6_believes 19 = .ok (.if_icmp .ge 77, 3) := by decide +kernel
theorem dX6_believes_22 : decode cX6_believes 22 = .ok (.iload_n 2, 1) := by decide +kernel
theorem dX6_believes_23 : decode cX6_believes 23 = .ok (.iload_n 3, 1) := by decide +kernel
theorem dX6_believes_24 : decode cX6_believes 24 = .ok (.iload 4, 2) := by decide +kernel
theorem dX6_believes_26 : decode cX6_believes 26 = .ok (.invokestatic 91, 3) := by decide +kernel
theorem dX6_believes_29 : decode cX6_believes 29 = .ok (.ifCond .eq 58, 3) := by decide +kernel
theorem dX6_believes_32 : decode cX6_believes 32 = .ok (.aload_n 0, 1) := by decide +kernel
theorem dX6_believes_33 : decode cX6_believes 33 = .ok (.getfield 16, 3) := by decide +kernel
theorem dX6_believes_36 : decode cX6_believes 36 = .ok (.iload_n 1, 1) := by decide +kernel
theorem dX6_believes_37 : decode cX6_believes 37 = .ok (.iconst 0, 1) := by decide +kernel
theorem dX6_believes_38 : decode cX6_believes 38 = .ok (.invokestatic 61, 3) := by decide +kernel
theorem dX6_believes_41 : decode cX6_believes 41 = .ok (.iaload, 1) := by decide +kernel
theorem dX6_believes_42 : decode cX6_believes 42 = .ok (.aload_n 0, 1) := by decide +kernel
theorem dX6_believes_43 : decode cX6_believes 43 = .ok (.getfield 16, 3) := by decide +kernel
theorem dX6_believes_46 : decode cX6_believes 46 = .ok (.bipush 29, 2) := by decide +kernel
theorem dX6_believes_48 : decode cX6_believes 48 = .ok (.iload 4, 2) := by decide +kernel
theorem dX6_believes_50 : decode cX6_believes 50 = .ok (.iadd, 1) := by decide +kernel
theorem dX6_believes_51 : decode cX6_believes 51 = .ok (.iaload, 1) := by decide +kernel
theorem dX6_believes_52 : decode cX6_believes 52 = .ok (.aload_n 0, 1) := by decide +kernel
theorem dX6_believes_53 : decode cX6_believes 53 = .ok (.getfield 16, 3) := by decide +kernel
theorem dX6_believes_56 : decode cX6_believes 56 = .ok (.iload_n 1, 1) := by decide +kernel
theorem dX6_believes_57 : decode cX6_believes 57 = .ok (.iconst 3, 1) := by decide +kernel
theorem dX6_believes_58 : decode cX6_believes 58 = .ok (.invokestatic 61, 3) := by decide +kernel
theorem dX6_believes_61 : decode cX6_believes 61 = .ok (.iaload, 1) := by decide +kernel
theorem dX6_believes_62 : decode cX6_believes 62 = .ok (.iand, 1) := by decide +kernel
theorem dX6_believes_63 : decode cX6_believes 63 = .ok (.invokestatic 85, 3) := by decide +kernel
theorem dX6_believes_66 : decode cX6_believes 66 = .ok (.iadd, 1) := by decide +kernel
theorem dX6_believes_67 : decode cX6_believes 67 = .ok (.aload_n 0, 1) := by decide +kernel
theorem dX6_believes_68 : decode cX6_believes 68 = .ok (.getfield 16, 3) := by decide +kernel
theorem dX6_believes_71 : decode cX6_believes 71 = .ok (.bipush 17, 2) := by decide +kernel
theorem dX6_believes_73 : decode cX6_believes 73 = .ok (.iload 4, 2) := by decide +kernel
theorem dX6_believes_75 : decode cX6_believes 75 = .ok (.iadd, 1) := by decide +kernel
theorem dX6_believes_76 : decode cX6_believes 76 = .ok (.iaload, 1) := by decide +kernel
theorem dX6_believes_77 : decode cX6_believes 77 = .ok (.if_icmp .le 10, 3) := by decide +kernel
theorem dX6_believes_80 : decode cX6_believes 80 = .ok (.iconst 1, 1) := by decide +kernel
theorem dX6_believes_81 : decode cX6_believes 81 = .ok (.iload 4, 2) := by decide +kernel
theorem dX6_believes_83 : decode cX6_believes 83 = .ok (.ishl, 1) := by decide +kernel
theorem dX6_believes_84 : decode cX6_believes 84 = .ok (.goto 4, 3) := by decide +kernel
theorem dX6_believes_87 : decode cX6_believes 87 = .ok (.iconst 0, 1) := by decide +kernel
theorem dX6_believes_88 : decode cX6_believes 88 = .ok (.ior, 1) := by decide +kernel
theorem dX6_believes_89 : decode cX6_believes 89 = .ok (.istore_n 2, 1) := by decide +kernel
theorem dX6_believes_90 : decode cX6_believes 90 = .ok (.iinc 4 1, 3) := by decide +kernel
theorem dX6_believes_93 : decode cX6_believes 93 = .ok (.goto (-82), 3) := by decide +kernel
theorem dX6_believes_96 : decode cX6_believes 96 = .ok (.iload_n 2, 1) := by decide +kernel
theorem dX6_believes_97 : decode cX6_believes 97 = .ok (.ireturn, 1) := by decide +kernel
theorem dX6_spreads_0 : decode cX6_spreads 0 = .ok (.aload_n 0, 1) := by decide +kernel
theorem dX6_spreads_1 : decode cX6_spreads 1 = .ok (.iload_n 1, 1) := by decide +kernel
theorem dX6_spreads_2 : decode cX6_spreads 2 = .ok (.invokevirtual 130, 3) := by decide +kernel
theorem dX6_spreads_5 : decode cX6_spreads 5 = .ok (.istore_n 2, 1) := by decide +kernel
theorem dX6_spreads_6 : decode cX6_spreads 6 = .ok (.aload_n 0, 1) := by decide +kernel
theorem dX6_spreads_7 : decode cX6_spreads 7 = .ok (.iload_n 1, 1) := by decide +kernel
theorem dX6_spreads_8 : decode cX6_spreads 8 = .ok (.invokevirtual 133, 3) := by decide +kernel
theorem dX6_spreads_11 : decode cX6_spreads 11 = .ok (.istore_n 3, 1) := by decide +kernel
theorem dX6_spreads_12 : decode cX6_spreads 12 = .ok (.iconst 0, 1) := by decide +kernel
theorem dX6_spreads_13 : decode cX6_spreads 13 = .ok (.istore 4, 2) := by decide +kernel
theorem dX6_spreads_15 : decode cX6_spreads 15 = .ok (.iload 4, 2) := by decide +kernel
theorem dX6_spreads_17 : decode cX6_spreads 17 = .ok (.aload_n 0, 1) := by decide +kernel
theorem dX6_spreads_18 : decode cX6_spreads 18 = .ok (.getfield 16, 3) := by decide +kernel
theorem dX6_spreads_21 : decode cX6_spreads 21 = .ok (.iconst 0, 1) := by decide +kernel
theorem dX6_spreads_22 : decode cX6_spreads 22 = .ok (.iaload, 1) := by decide +kernel
theorem dX6_spreads_23 : decode cX6_spreads 23 = .ok (.if_icmp .ge 39, 3) := by decide +kernel
theorem dX6_spreads_26 : decode cX6_spreads 26 = .ok (.iload_n 2, 1) := by decide +kernel
theorem dX6_spreads_27 : decode cX6_spreads 27 = .ok (.iload 4, 2) := by decide +kernel
theorem dX6_spreads_29 : decode cX6_spreads 29 = .ok (.invokestatic 91, 3) := by decide +kernel
theorem dX6_spreads_32 : decode cX6_spreads 32 = .ok (.ifCond .eq 24, 3) := by decide +kernel
theorem dX6_spreads_35 : decode cX6_spreads 35 = .ok (.aload_n 0, 1) := by decide +kernel
theorem dX6_spreads_36 : decode cX6_spreads 36 = .ok (.getfield 16, 3) := by decide +kernel
theorem dX6_spreads_39 : decode cX6_spreads 39 = .ok (.bipush 61, 2) := by decide +kernel
theorem dX6_spreads_41 : decode cX6_spreads 41 = .ok (.bipush 12, 2) := by decide +kernel
theorem dX6_spreads_43 : decode cX6_spreads 43 = .ok (.iload_n 1, 1) := by decide +kernel
theorem dX6_spreads_44 : decode cX6_spreads 44 = .ok (.imul, 1) := by decide +kernel
theorem dX6_spreads_45 : decode cX6_spreads 45 = .ok (.iadd, 1) := by decide +kernel
theorem dX6_spreads_46 : decode cX6_spreads 46 = .ok (.iload 4, 2) := by decide +kernel
theorem dX6_spreads_48 : decode cX6_spreads 48 = .ok (.iadd, 1) := by decide +kernel
theorem dX6_spreads_49 : decode cX6_spreads 49 = .ok (.aload_n 0, 1) := by decide +kernel
theorem dX6_spreads_50 : decode cX6_spreads 50 = .ok (.getfield 16, 3) := by decide +kernel
theorem dX6_spreads_53 : decode cX6_spreads 53 = .ok (.iconst 2, 1) := by decide +kernel
theorem dX6_spreads_54 : decode cX6_spreads 54 = .ok (.iaload, 1) := by decide +kernel
theorem dX6_spreads_55 : decode cX6_spreads 55 = .ok (.iastore, 1) := by decide +kernel
theorem dX6_spreads_56 : decode cX6_spreads 56 = .ok (.iinc 4 1, 3) := by decide +kernel
theorem dX6_spreads_59 : decode cX6_spreads 59 = .ok (.goto (-44), 3) := by decide +kernel
theorem dX6_spreads_62 : decode cX6_spreads 62 = .ok (.aload_n 0, 1) := by decide +kernel
theorem dX6_spreads_63 : decode cX6_spreads 63 = .ok (.getfield 16, 3) := by decide +kernel
theorem dX6_spreads_66 : decode cX6_spreads 66 = .ok (.iconst 3, 1) := by decide +kernel
theorem dX6_spreads_67 : decode cX6_spreads 67 = .ok (.dup2, 1) := by decide +kernel
theorem dX6_spreads_68 : decode cX6_spreads 68 = .ok (.iaload, 1) := by decide +kernel
theorem dX6_spreads_69 : decode cX6_spreads 69 = .ok (.iload_n 2, 1) := by decide +kernel
theorem dX6_spreads_70 : decode cX6_spreads 70 = .ok (.invokestatic 85, 3) := by decide +kernel
theorem dX6_spreads_73 : decode cX6_spreads 73 = .ok (.iadd, 1) := by decide +kernel
theorem dX6_spreads_74 : decode cX6_spreads 74 = .ok (.iastore, 1) := by decide +kernel
theorem dX6_spreads_75 : decode cX6_spreads 75 = .ok (.aload_n 0, 1) := by decide +kernel
theorem dX6_spreads_76 : decode cX6_spreads 76 = .ok (.getfield 16, 3) := by decide +kernel
theorem dX6_spreads_79 : decode cX6_spreads 79 = .ok (.iload_n 1, 1) := by decide +kernel
theorem dX6_spreads_80 : decode cX6_spreads 80 = .ok (.iconst 3, 1) := by decide +kernel
theorem dX6_spreads_81 : decode cX6_spreads 81 = .ok (.invokestatic 61, 3) := by decide +kernel
theorem dX6_spreads_84 : decode cX6_spreads 84 = .ok (.dup2, 1) := by decide +kernel
theorem dX6_spreads_85 : decode cX6_spreads 85 = .ok (.iaload, 1) := by decide +kernel
theorem dX6_spreads_86 : decode cX6_spreads 86 = .ok (.iload_n 3, 1) := by decide +kernel
theorem dX6_spreads_87 : decode cX6_spreads 87 = .ok (.ior, 1) := by decide +kernel
theorem dX6_spreads_88 : decode cX6_spreads 88 = .ok (.iastore, 1) := by decide +kernel
theorem dX6_spreads_89 : decode cX6_spreads 89 = .ok (.aload_n 0, 1) := by decide +kernel
theorem dX6_spreads_90 : decode cX6_spreads 90 = .ok (.getfield 16, 3) := by decide +kernel
theorem dX6_spreads_93 : decode cX6_spreads 93 = .ok (.iload_n 1, 1) := by decide +kernel
theorem dX6_spreads_94 : decode cX6_spreads 94 = .ok (.iconst 4, 1) := by decide +kernel
theorem dX6_spreads_95 : decode cX6_spreads 95 = .ok (.invokestatic 61, 3) := by decide +kernel
theorem dX6_spreads_98 : decode cX6_spreads 98 = .ok (.dup2, 1) := by decide +kernel
theorem dX6_spreads_99 : decode cX6_spreads 99 = .ok (.iaload, 1) := by decide +kernel
theorem dX6_spreads_100 : decode cX6_spreads 100 = .ok (.iload_n 2, 1) := by decide +kernel
theorem dX6_spreads_101 : decode cX6_spreads 101 = .ok (.iload_n 3, 1) := by decide +kernel
theorem dX6_spreads_102 : decode cX6_spreads 102 = .ok (.iconst (-1), 1) := by decide +kernel
theorem dX6_spreads_103 : decode cX6_spreads 103 = .ok (.ixor, 1) := by decide +kernel
theorem dX6_spreads_104 : decode cX6_spreads 104 = .ok (.iand, 1) := by decide +kernel
theorem dX6_spreads_105 : decode cX6_spreads 105 = .ok (.ior, 1) := by decide +kernel
theorem dX6_spreads_106 : decode cX6_spreads 106 = .ok (.iastore, 1) := by decide +kernel
theorem dX6_spreads_107 : decode cX6_spreads 107 = .ok (.aload_n 0, 1) := by decide +kernel
theorem dX6_spreads_108 : decode cX6_spreads 108 = .ok (.getfield 16, 3) := by decide +kernel
theorem dX6_spreads_111 : decode cX6_spreads 111 = .ok (.iload_n 1, 1) := by decide +kernel
theorem dX6_spreads_112 : decode cX6_spreads 112 = .ok (.iconst 0, 1) := by decide +kernel
theorem dX6_spreads_113 : decode cX6_spreads 113 = .ok (.invokestatic 61, 3) := by decide +kernel
theorem dX6_spreads_116 : decode cX6_spreads 116 = .ok (.dup2, 1) := by decide +kernel
theorem dX6_spreads_117 : decode cX6_spreads 117 = .ok (.iaload, 1) := by decide +kernel
theorem dX6_spreads_118 : decode cX6_spreads 118 = .ok (.iload_n 3, 1) := by decide +kernel
theorem dX6_spreads_119 : decode cX6_spreads 119 = .ok (.ifCond .ne 20, 3) := by decide +kernel
theorem dX6_spreads_122 : decode cX6_spreads 122 = .ok (.aload_n 0, 1) := by decide +kernel
theorem dX6_spreads_123 : decode cX6_spreads 123 = .ok (.getfield 16, 3) := by decide +kernel
theorem dX6_spreads_126 : decode cX6_spreads 126 = .ok (.iload_n 1, 1) := by decide +kernel
theorem dX6_spreads_127 : decode cX6_spreads 127 = .ok (.iconst 0, 1) := by decide +kernel
theorem dX6_spreads_128 : decode cX6_spreads 128 = .ok (.invokestatic 61, 3) := by decide +kernel
theorem dX6_spreads_131 : decode cX6_spreads 131 = .ok (.iaload, 1) := by decide +kernel
theorem dX6_spreads_132 : decode cX6_spreads 132 = .ok (.ifCond .le 7, 3) := by decide +kernel
theorem dX6_spreads_135 : decode cX6_spreads 135 = .ok (.iconst 1, 1) := by decide +kernel
theorem dX6_spreads_136 : decode cX6_spreads 136 = .ok (.goto 4, 3) := by decide +kernel
theorem dX6_spreads_139 : decode cX6_spreads 139 = .ok (.iconst 0, 1) := by decide +kernel
theorem dX6_spreads_140 : decode cX6_spreads 140 = .ok (.isub, 1) := by decide +kernel
theorem dX6_spreads_141 : decode cX6_spreads 141 = .ok (.iastore, 1) := by decide +kernel
theorem dX6_spreads_142 : decode cX6_spreads 142 = .ok (.iload_n 3, 1) := by decide +kernel
theorem dX6_spreads_143 : decode cX6_spreads 143 = .ok (.invokestatic 85, 3) := by decide +kernel
theorem dX6_spreads_146 : decode cX6_spreads 146 = .ok (.ireturn, 1) := by decide +kernel
theorem dX6_rounds_0 : decode cX6_rounds 0 = .ok (.iconst 0, 1) := by decide +kernel
theorem dX6_rounds_1 : decode cX6_rounds 1 = .ok (.istore_n 2, 1) := by decide +kernel
theorem dX6_rounds_2 : decode cX6_rounds 2 = .ok (.iconst 0, 1) := by decide +kernel
theorem dX6_rounds_3 : decode cX6_rounds 3 = .ok (.istore_n 3, 1) := by decide +kernel
theorem dX6_rounds_4 : decode cX6_rounds 4 = .ok (.iload_n 3, 1) := by decide +kernel
theorem dX6_rounds_5 : decode cX6_rounds 5 = .ok (.iload_n 1, 1) := by decide +kernel
theorem dX6_rounds_6 : decode cX6_rounds 6 = .ok (.if_icmp .ge 67, 3) := by decide +kernel
theorem dX6_rounds_9 : decode cX6_rounds 9 = .ok (.iconst 0, 1) := by decide +kernel
theorem dX6_rounds_10 : decode cX6_rounds 10 = .ok (.istore 4, 2) := by decide +kernel
theorem dX6_rounds_12 : decode cX6_rounds 12 = .ok (.iload 4, 2) := by decide +kernel
theorem dX6_rounds_14 : decode cX6_rounds 14 = .ok (.aload_n 0, 1) := by decide +kernel
theorem dX6_rounds_15 : decode cX6_rounds 15 = .ok (.getfield 16, 3) := by decide +kernel
theorem dX6_rounds_18 : decode cX6_rounds 18 = .ok (.iconst 1, 1) := by decide +kernel
theorem dX6_rounds_19 : decode cX6_rounds 19 = .ok (.iaload, 1) := by decide +kernel
theorem dX6_rounds_20 : decode cX6_rounds 20 = .ok (.if_icmp .ge 37, 3) := by decide +kernel
theorem dX6_rounds_23 : decode cX6_rounds 23 = .ok (.iload_n 2, 1) := by decide +kernel
theorem dX6_rounds_24 : decode cX6_rounds 24 = .ok (.aload_n 0, 1) := by decide +kernel
theorem dX6_rounds_25 : decode cX6_rounds 25 = .ok (.getfield 16, 3) := by decide +kernel
theorem dX6_rounds_28 : decode cX6_rounds 28 = .ok (.iload 4, 2) := by decide +kernel
theorem dX6_rounds_30 : decode cX6_rounds 30 = .ok (.iconst 1, 1) := by decide +kernel
theorem dX6_rounds_31 : decode cX6_rounds 31 = .ok (.invokestatic 61, 3) := by decide +kernel
theorem dX6_rounds_34 : decode cX6_rounds 34 = .ok (.iaload, 1) := by decide +kernel
theorem dX6_rounds_35 : decode cX6_rounds 35 = .ok (.iconst 1, 1) := by decide +kernel
theorem dX6_rounds_36 : decode cX6_rounds 36 = .ok (.if_icmp .ne 7, 3) := by decide +kernel
theorem dX6_rounds_39 : decode cX6_rounds 39 = .ok (.iconst 0, 1) := by decide +kernel
theorem dX6_rounds_40 : decode cX6_rounds 40 = .ok (.goto 9, 3) := by decide +kernel
theorem dX6_rounds_43 : decode cX6_rounds 43 = .ok (.aload_n 0, 1) := by decide +kernel
theorem dX6_rounds_44 : decode cX6_rounds 44 = .ok (.iload 4, 2) := by decide +kernel
theorem dX6_rounds_46 : decode cX6_rounds 46 = .ok (.invokevirtual 136, 3) := by decide +kernel
theorem dX6_rounds_49 : decode cX6_rounds 49 = .ok (.iadd, 1) := by decide +kernel
theorem dX6_rounds_50 : decode cX6_rounds 50 = .ok (.istore_n 2, 1) := by decide +kernel
theorem dX6_rounds_51 : decode cX6_rounds 51 = .ok (.iinc 4 1, 3) := by decide +kernel
theorem dX6_rounds_54 : decode cX6_rounds 54 = .ok (.goto (-42), 3) := by decide +kernel
theorem dX6_rounds_57 : decode cX6_rounds 57 = .ok (.aload_n 0, 1) := by decide +kernel
theorem dX6_rounds_58 : decode cX6_rounds 58 = .ok (.getfield 16, 3) := by decide +kernel
theorem dX6_rounds_61 : decode cX6_rounds 61 = .ok (.iconst 2, 1) := by decide +kernel
theorem dX6_rounds_62 : decode cX6_rounds 62 = .ok (.dup2, 1) := by decide +kernel
theorem dX6_rounds_63 : decode cX6_rounds 63 = .ok (.iaload, 1) := by decide +kernel
theorem dX6_rounds_64 : decode cX6_rounds 64 = .ok (.iconst 1, 1) := by decide +kernel
theorem dX6_rounds_65 : decode cX6_rounds 65 = .ok (.iadd, 1) := by decide +kernel
theorem dX6_rounds_66 : decode cX6_rounds 66 = .ok (.iastore, 1) := by decide +kernel
theorem dX6_rounds_67 : decode cX6_rounds 67 = .ok (.iinc 3 1, 3) := by decide +kernel
theorem dX6_rounds_70 : decode cX6_rounds 70 = .ok (.goto (-66), 3) := by decide +kernel
theorem dX6_rounds_73 : decode cX6_rounds 73 = .ok (.iload_n 2, 1) := by decide +kernel
theorem dX6_rounds_74 : decode cX6_rounds 74 = .ok (.ireturn, 1) := by decide +kernel
theorem dX6_passes_0 : decode cX6_passes 0 = .ok (.iload_n 1, 1) := by decide +kernel
theorem dX6_passes_1 : decode cX6_passes 1 = .ok (.iconst 1, 1) := by decide +kernel
theorem dX6_passes_2 : decode cX6_passes 2 = .ok (.bipush 20, 2) := by decide +kernel
theorem dX6_passes_4 : decode cX6_passes 4 = .ok (.invokestatic 57, 3) := by decide +kernel
theorem dX6_passes_7 : decode cX6_passes 7 = .ok (.ifCond .eq 11, 3) := by decide +kernel
theorem dX6_passes_10 : decode cX6_passes 10 = .ok (.aload_n 0, 1) := by decide +kernel
theorem dX6_passes_11 : decode cX6_passes 11 = .ok (.iload_n 1, 1) := by decide +kernel
theorem dX6_passes_12 : decode cX6_passes 12 = .ok (.invokevirtual 139, 3) := by decide +kernel
theorem dX6_passes_15 : decode cX6_passes 15 = .ok (.goto 8, 3) := by decide +kernel
theorem dX6_passes_18 : decode cX6_passes 18 = .ok (.aload_n 0, 1) := by decide +kernel
theorem dX6_passes_19 : decode cX6_passes 19 = .ok (.iconst 1, 1) := by decide +kernel
theorem dX6_passes_20 : decode cX6_passes 20 = .ok (.invokevirtual 72, 3) := by decide +kernel
theorem dX6_passes_23 : decode cX6_passes 23 = .ok (.ireturn, 1) := by decide +kernel
theorem dX6_advance_0 : decode cX6_advance 0 = .ok (.aload_n 0, 1) := by decide +kernel
theorem dX6_advance_1 : decode cX6_advance 1 = .ok (.invokevirtual 76, 3) := by decide +kernel
theorem dX6_advance_4 : decode cX6_advance 4 = .ok (.aload_n 0, 1) := by decide +kernel
theorem dX6_advance_5 : decode cX6_advance 5 = .ok (.aload_n 0, 1) := by decide +kernel
theorem dX6_advance_6 : decode cX6_advance 6 = .ok (.iload_n 1, 1) := by decide +kernel
theorem dX6_advance_7 : decode cX6_advance 7 = .ok (.invokevirtual 142, 3) := by decide +kernel
theorem dX6_advance_10 : decode cX6_advance 10 = .ok (.invokevirtual 82, 3) := by decide +kernel
theorem dX6_advance_13 : decode cX6_advance 13 = .ok (.ireturn, 1) := by decide +kernel
theorem dX6_listenerCount_0 : decode cX6_listenerCount 0 = .ok (.aload_n 0, 1) := by decide +kernel
theorem dX6_listenerCount_1 : decode cX6_listenerCount 1 = .ok (.iconst 0, 1) := by decide +kernel
theorem dX6_listenerCount_2 : decode cX6_listenerCount 2 = .ok (.putfield 47, 3) := by decide +kernel
theorem dX6_listenerCount_5 : decode cX6_listenerCount 5 = .ok (.aload_n 0, 1) := by decide +kernel
theorem dX6_listenerCount_6 : decode cX6_listenerCount 6 = .ok (.getfield 16, 3) := by decide +kernel
theorem dX6_listenerCount_9 : decode cX6_listenerCount 9 = .ok (.iconst 0, 1) := by decide +kernel
theorem dX6_listenerCount_10 : decode cX6_listenerCount 10 = .ok (.iaload, 1) := by decide +kernel
theorem dX6_listenerCount_11 : decode cX6_listenerCount 11 = .ok (.ireturn, 1) := by decide +kernel
theorem dX6_hive_0 : decode cX6_hive 0 = .ok (.aload_n 0, 1) := by decide +kernel
theorem dX6_hive_1 : decode cX6_hive 1 = .ok (.aload_n 0, 1) := by decide +kernel
theorem dX6_hive_2 : decode cX6_hive 2 = .ok (.iload_n 1, 1) := by decide +kernel
theorem dX6_hive_3 : decode cX6_hive 3 = .ok (.invokevirtual 88, 3) := by decide +kernel
theorem dX6_hive_6 : decode cX6_hive 6 = .ok (.ifCond .eq 7, 3) := by decide +kernel
theorem dX6_hive_9 : decode cX6_hive 9 = .ok (.iconst 0, 1) := by decide +kernel
theorem dX6_hive_10 : decode cX6_hive 10 = .ok (.goto 4, 3) := by decide +kernel
theorem dX6_hive_13 : decode cX6_hive 13 = .ok (.iconst 1, 1) := by decide +kernel
theorem dX6_hive_14 : decode cX6_hive 14 = .ok (.putfield 47, 3) := by decide +kernel
theorem dX6_hive_17 : decode cX6_hive 17 = .ok (.aload_n 0, 1) := by decide +kernel
theorem dX6_hive_18 : decode cX6_hive 18 = .ok (.getfield 47, 3) := by decide +kernel
theorem dX6_hive_21 : decode cX6_hive 21 = .ok (.ifCond .ne 14, 3) := by decide +kernel
theorem dX6_hive_24 : decode cX6_hive 24 = .ok (.aload_n 0, 1) := by decide +kernel
theorem dX6_hive_25 : decode cX6_hive 25 = .ok (.getfield 16, 3) := by decide +kernel
theorem dX6_hive_28 : decode cX6_hive 28 = .ok (.iconst 5, 1) := by decide +kernel
theorem dX6_hive_29 : decode cX6_hive 29 = .ok (.iload_n 1, 1) := by decide +kernel
theorem dX6_hive_30 : decode cX6_hive 30 = .ok (.iadd, 1) := by decide +kernel
theorem dX6_hive_31 : decode cX6_hive 31 = .ok (.iaload, 1) := by decide +kernel
theorem dX6_hive_32 : decode cX6_hive 32 = .ok (.goto 4, 3) := by decide +kernel
theorem dX6_hive_35 : decode cX6_hive 35 = .ok (.iconst 0, 1) := by decide +kernel
theorem dX6_hive_36 : decode cX6_hive 36 = .ok (.ireturn, 1) := by decide +kernel
theorem dX6_doubt_0 : decode cX6_doubt 0 = .ok (.aload_n 0, 1) := by decide +kernel
theorem dX6_doubt_1 : decode cX6_doubt 1 = .ok (.aload_n 0, 1) := by decide +kernel
theorem dX6_doubt_2 : decode cX6_doubt 2 = .ok (.iload_n 1, 1) := by decide +kernel
theorem dX6_doubt_3 : decode cX6_doubt 3 = .ok (.invokevirtual 88, 3) := by decide +kernel
theorem dX6_doubt_6 : decode cX6_doubt 6 = .ok (.ifCond .eq 7, 3) := by decide +kernel
theorem dX6_doubt_9 : decode cX6_doubt 9 = .ok (.iconst 0, 1) := by decide +kernel
theorem dX6_doubt_10 : decode cX6_doubt 10 = .ok (.goto 4, 3) := by decide +kernel
theorem dX6_doubt_13 : decode cX6_doubt 13 = .ok (.iconst 1, 1) := by decide +kernel
theorem dX6_doubt_14 : decode cX6_doubt 14 = .ok (.putfield 47, 3) := by decide +kernel
theorem dX6_doubt_17 : decode cX6_doubt 17 = .ok (.aload_n 0, 1) := by decide +kernel
theorem dX6_doubt_18 : decode cX6_doubt 18 = .ok (.getfield 47, 3) := by decide +kernel
theorem dX6_doubt_21 : decode cX6_doubt 21 = .ok (.ifCond .ne 15, 3) := by decide +kernel
theorem dX6_doubt_24 : decode cX6_doubt 24 = .ok (.aload_n 0, 1) := by decide +kernel
theorem dX6_doubt_25 : decode cX6_doubt 25 = .ok (.getfield 16, 3) := by decide +kernel
theorem dX6_doubt_28 : decode cX6_doubt 28 = .ok (.bipush 17, 2) := by decide +kernel
theorem dX6_doubt_30 : decode cX6_doubt 30 = .ok (.iload_n 1, 1) := by decide +kernel
theorem dX6_doubt_31 : decode cX6_doubt 31 = .ok (.iadd, 1) := by decide +kernel
theorem dX6_doubt_32 : decode cX6_doubt 32 = .ok (.iaload, 1) := by decide +kernel
theorem dX6_doubt_33 : decode cX6_doubt 33 = .ok (.goto 4, 3) := by decide +kernel
theorem dX6_doubt_36 : decode cX6_doubt 36 = .ok (.iconst 0, 1) := by decide +kernel
theorem dX6_doubt_37 : decode cX6_doubt 37 = .ok (.ireturn, 1) := by decide +kernel
theorem dX6_isLinked_0 : decode cX6_isLinked 0 = .ok (.aload_n 0, 1) := by decide +kernel
theorem dX6_isLinked_1 : decode cX6_isLinked 1 = .ok (.aload_n 0, 1) := by decide +kernel
theorem dX6_isLinked_2 : decode cX6_isLinked 2 = .ok (.iload_n 1, 1) := by decide +kernel
theorem dX6_isLinked_3 : decode cX6_isLinked 3 = .ok (.invokevirtual 88, 3) := by decide +kernel
theorem dX6_isLinked_6 : decode cX6_isLinked 6 = .ok (.ifCond .eq 15, 3) := by decide +kernel
theorem dX6_isLinked_9 : decode cX6_isLinked 9 = .ok (.aload_n 0, 1) := by decide +kernel
theorem dX6_isLinked_10 : decode cX6_isLinked 10 = .ok (.iload_n 2, 1) := by decide +kernel
theorem dX6_isLinked_11 : decode cX6_isLinked 11 = .ok (.invokevirtual 88, 3) := by decide +kernel
theorem dX6_isLinked_14 : decode cX6_isLinked 14 = .ok (.ifCond .eq 7, 3) := by decide +kernel
theorem dX6_isLinked_17 : decode cX6_isLinked 17 = .ok (.iconst 0, 1) := by decide +kernel
theorem dX6_isLinked_18 : decode cX6_isLinked 18 = .ok (.goto 4, 3) := by decide +kernel
theorem dX6_isLinked_21 : decode cX6_isLinked 21 = .ok (.iconst 1, 1) := by decide +kernel
theorem dX6_isLinked_22 : decode cX6_isLinked 22 = .ok (.putfield 47, 3) := by decide +kernel
theorem dX6_isLinked_25 : decode cX6_isLinked 25 = .ok (.aload_n 0, 1) := by decide +kernel
theorem dX6_isLinked_26 : decode cX6_isLinked 26 = .ok (.getfield 47, 3) := by decide +kernel
theorem dX6_isLinked_29 : decode cX6_isLinked 29 = .ok (.ifCond .ne 23, 3) := by decide +kernel
theorem dX6_isLinked_32 : decode cX6_isLinked 32 = .ok (.aload_n 0, 1) := by decide +kernel
theorem dX6_isLinked_33 : decode cX6_isLinked 33 = .ok (.getfield 16, 3) := by decide +kernel
theorem dX6_isLinked_36 : decode cX6_isLinked 36 = .ok (.bipush 29, 2) := by decide +kernel
theorem dX6_isLinked_38 : decode cX6_isLinked 38 = .ok (.iload_n 1, 1) := by decide +kernel
theorem dX6_isLinked_39 : decode cX6_isLinked 39 = .ok (.iadd, 1) := by decide +kernel
theorem dX6_isLinked_40 : decode cX6_isLinked 40 = .ok (.iaload, 1) := by decide +kernel
theorem dX6_isLinked_41 : decode cX6_isLinked 41 = .ok (.iload_n 2, 1) := by decide +kernel
theorem dX6_isLinked_42 : decode cX6_isLinked 42 = .ok (.invokestatic 91, 3) := by decide +kernel
theorem dX6_isLinked_45 : decode cX6_isLinked 45 = .ok (.ifCond .eq 7, 3) := by decide +kernel
theorem dX6_isLinked_48 : decode cX6_isLinked 48 = .ok (.iconst 1, 1) := by decide +kernel
theorem dX6_isLinked_49 : decode cX6_isLinked 49 = .ok (.goto 4, 3) := by decide +kernel
theorem dX6_isLinked_52 : decode cX6_isLinked 52 = .ok (.iconst 0, 1) := by decide +kernel
theorem dX6_isLinked_53 : decode cX6_isLinked 53 = .ok (.ireturn, 1) := by decide +kernel
theorem dX6_neighbourCount_0 : decode cX6_neighbourCount 0 = .ok (.aload_n 0, 1) := by decide +kernel
theorem dX6_neighbourCount_1 : decode cX6_neighbourCount 1 = .ok (.aload_n 0, 1) := by decide +kernel
theorem dX6_neighbourCount_2 : decode cX6_neighbourCount 2 = .ok (.iload_n 1, 1) := by decide +kernel
theorem dX6_neighbourCount_3 : decode cX6_neighbourCount 3 = .ok (.invokevirtual 88, 3) := by decide +kernel
theorem dX6_neighbourCount_6 : decode cX6_neighbourCount 6 = .ok (.ifCond .eq 7, 3) := by decide +kernel
theorem dX6_neighbourCount_9 : decode cX6_neighbourCount 9 = .ok (.iconst 0, 1) := by decide +kernel
theorem dX6_neighbourCount_10 : decode cX6_neighbourCount 10 = .ok (.goto 4, 3) := by decide +kernel
theorem dX6_neighbourCount_13 : decode cX6_neighbourCount 13 = .ok (.iconst 1, 1) := by decide +kernel
theorem dX6_neighbourCount_14 : decode cX6_neighbourCount 14 = .ok (.putfield 47, 3) := by decide +kernel
theorem dX6_neighbourCount_17 : decode cX6_neighbourCount 17 = .ok (.aload_n 0, 1) := by decide +kernel
theorem dX6_neighbourCount_18 : decode cX6_neighbourCount 18 = .ok (.getfield 47, 3) := by decide +kernel
theorem dX6_neighbourCount_21 : decode cX6_neighbourCount 21 = .ok (.ifCond .ne 18, 3) := by decide +kernel
theorem dX6_neighbourCount_24 : decode cX6_neighbourCount 24 = .ok (.aload_n 0, 1) := by decide +kernel
theorem dX6_neighbourCount_25 : decode cX6_neighbourCount 25 = .ok (.getfield 16, 3) := by decide +kernel
theorem dX6_neighbourCount_28 : decode cX6_neighbourCount 28 = .ok (.bipush 29, 2) := by decide +kernel
theorem dX6_neighbourCount_30 : decode cX6_neighbourCount 30 = .ok (.iload_n 1, 1) := by decide +kernel
theorem dX6_neighbourCount_31 : decode cX6_neighbourCount 31 = .ok (.iadd, 1) := by decide +kernel
theorem dX6_neighbourCount_32 : decode cX6_neighbourCount 32 = .ok (.iaload, 1) := by decide +kernel
theorem dX6_neighbourCount_33 : decode cX6_neighbourCount 33 = .ok (.invokestatic 85, 3) := by decide +kernel
theorem dX6_neighbourCount_36 : decode cX6_neighbourCount 36 = .ok (.goto 4, 3) := by decide +kernel
theorem dX6_neighbourCount_39 : decode cX6_neighbourCount 39 = .ok (.iconst 0, 1) := by decide +kernel
theorem dX6_neighbourCount_40 : decode cX6_neighbourCount 40 = .ok (.ireturn, 1) := by decide +kernel
theorem dX6_linkCount_0 : decode cX6_linkCount 0 = .ok (.aload_n 0, 1) := by decide +kernel
theorem dX6_linkCount_1 : decode cX6_linkCount 1 = .ok (.iconst 0, 1) := by decide +kernel
theorem dX6_linkCount_2 : decode cX6_linkCount 2 = .ok (.putfield 47, 3) := by decide +kernel
theorem dX6_linkCount_5 : decode cX6_linkCount 5 = .ok (.aload_n 0, 1) := by decide +kernel
theorem dX6_linkCount_6 : decode cX6_linkCount 6 = .ok (.invokevirtual 99, 3) := by decide +kernel
theorem dX6_linkCount_9 : decode cX6_linkCount 9 = .ok (.ireturn, 1) := by decide +kernel
theorem dX6_hiveSize_0 : decode cX6_hiveSize 0 = .ok (.aload_n 0, 1) := by decide +kernel
theorem dX6_hiveSize_1 : decode cX6_hiveSize 1 = .ok (.iload_n 1, 1) := by decide +kernel
theorem dX6_hiveSize_2 : decode cX6_hiveSize 2 = .ok (.invokestatic 65, 3) := by decide +kernel
theorem dX6_hiveSize_5 : decode cX6_hiveSize 5 = .ok (.ifCond .eq 7, 3) := by decide +kernel
theorem dX6_hiveSize_8 : decode cX6_hiveSize 8 = .ok (.iconst 0, 1) := by decide +kernel
theorem dX6_hiveSize_9 : decode cX6_hiveSize 9 = .ok (.goto 4, 3) := by decide +kernel
theorem dX6_hiveSize_12 : decode cX6_hiveSize 12 = .ok (.iconst 1, 1) := by decide +kernel
theorem dX6_hiveSize_13 : decode cX6_hiveSize 13 = .ok (.putfield 47, 3) := by decide +kernel
theorem dX6_hiveSize_16 : decode cX6_hiveSize 16 = .ok (.iconst 0, 1) := by decide +kernel
theorem dX6_hiveSize_17 : decode cX6_hiveSize 17 = .ok (.istore_n 2, 1) := by decide +kernel
theorem dX6_hiveSize_18 : decode cX6_hiveSize 18 = .ok (.iconst 0, 1) := by decide +kernel
theorem dX6_hiveSize_19 : decode cX6_hiveSize 19 = .ok (.istore_n 3, 1) := by decide +kernel
theorem dX6_hiveSize_20 : decode cX6_hiveSize 20 = .ok (.iload_n 3, 1) := by decide +kernel
theorem dX6_hiveSize_21 : decode cX6_hiveSize 21 = .ok (.aload_n 0, 1) := by decide +kernel
theorem dX6_hiveSize_22 : decode cX6_hiveSize 22 = .ok (.getfield 16, 3) := by decide +kernel
theorem dX6_hiveSize_25 : decode cX6_hiveSize 25 = .ok (.iconst 0, 1) := by decide +kernel
theorem dX6_hiveSize_26 : decode cX6_hiveSize 26 = .ok (.iaload, 1) := by decide +kernel
theorem dX6_hiveSize_27 : decode cX6_hiveSize 27 = .ok (.if_icmp .ge 29, 3) := by decide +kernel
theorem dX6_hiveSize_30 : decode cX6_hiveSize 30 = .ok (.iload_n 2, 1) := by decide +kernel
theorem dX6_hiveSize_31 : decode cX6_hiveSize 31 = .ok (.aload_n 0, 1) := by decide +kernel
theorem dX6_hiveSize_32 : decode cX6_hiveSize 32 = .ok (.getfield 16, 3) := by decide +kernel
theorem dX6_hiveSize_35 : decode cX6_hiveSize 35 = .ok (.iconst 5, 1) := by decide +kernel
theorem dX6_hiveSize_36 : decode cX6_hiveSize 36 = .ok (.iload_n 3, 1) := by decide +kernel
theorem dX6_hiveSize_37 : decode cX6_hiveSize 37 = .ok (.iadd, 1) := by decide +kernel
theorem dX6_hiveSize_38 : decode cX6_hiveSize 38 = .ok (.iaload, 1) := by decide +kernel
theorem dX6_hiveSize_39 : decode cX6_hiveSize 39 = .ok (.iload_n 1, 1) := by decide +kernel
theorem dX6_hiveSize_40 : decode cX6_hiveSize 40 = .ok (.if_icmp .ne 7, 3) := by decide +kernel
theorem dX6_hiveSize_43 : decode cX6_hiveSize 43 = .ok (.iconst 1, 1) := by decide +kernel
theorem dX6_hiveSize_44 : decode cX6_hiveSize 44 = .ok (.goto 4, 3) := by decide +kernel
theorem dX6_hiveSize_47 : decode cX6_hiveSize 47 = .ok (.iconst 0, 1) := by decide +kernel
theorem dX6_hiveSize_48 : decode cX6_hiveSize 48 = .ok (.iadd, 1) := by decide +kernel
theorem dX6_hiveSize_49 : decode cX6_hiveSize 49 = .ok (.istore_n 2, 1) := by decide +kernel
theorem dX6_hiveSize_50 : decode cX6_hiveSize 50 = .ok (.iinc 3 1, 3) := by decide +kernel
theorem dX6_hiveSize_53 : decode cX6_hiveSize 53 = .ok (.goto (-33), 3) := by decide +kernel
theorem dX6_hiveSize_56 : decode cX6_hiveSize 56 = .ok (.iload_n 2, 1) := by decide +kernel
theorem dX6_hiveSize_57 : decode cX6_hiveSize 57 = .ok (.ireturn, 1) := by decide +kernel
theorem dX6_reached_0 : decode cX6_reached 0 = .ok (.iload_n 1, 1) := by decide +kernel
theorem dX6_reached_1 : decode cX6_reached 1 = .ok (.istore_n 2, 1) := by decide +kernel
theorem dX6_reached_2 : decode cX6_reached 2 = .ok (.iconst 0, 1) := by decide +kernel
theorem dX6_reached_3 : decode cX6_reached 3 = .ok (.istore_n 3, 1) := by decide +kernel
theorem dX6_reached_4 : decode cX6_reached 4 = .ok (.iload_n 2, 1) := by decide +kernel
theorem dX6_reached_5 : decode cX6_reached 5 = .ok (.iload_n 3, 1) := by decide +kernel
theorem dX6_reached_6 : decode cX6_reached 6 = .ok (.if_icmp .eq 50, 3) := by decide +kernel
theorem dX6_reached_9 : decode cX6_reached 9 = .ok (.iload_n 2, 1) := by decide +kernel
theorem dX6_reached_10 : decode cX6_reached 10 = .ok (.istore_n 3, 1) := by decide +kernel
theorem dX6_reached_11 : decode cX6_reached 11 = .ok (.iconst 0, 1) := by decide +kernel
theorem dX6_reached_12 : decode cX6_reached 12 = .ok (.istore 4, 2) := by decide +kernel
theorem dX6_reached_14 : decode cX6_reached 14 = .ok (.iload 4, 2) := by decide +kernel
theorem dX6_reached_16 : decode cX6_reached 16 = .ok (.aload_n 0, 1) := by decide +kernel
theorem dX6_reached_17 : decode cX6_reached 17 = .ok (.getfield 16, 3) := by decide +kernel
theorem dX6_reached_20 : decode cX6_reached 20 = .ok (.iconst 0, 1) := by decide +kernel
theorem dX6_reached_21 : decode cX6_reached 21 = .ok (.iaload, 1) := by decide +kernel
theorem dX6_reached_22 : decode cX6_reached 22 = .ok (.if_icmp .ge 31, 3) := by decide +kernel
theorem dX6_reached_25 : decode cX6_reached 25 = .ok (.iload_n 3, 1) := by decide +kernel
theorem dX6_reached_26 : decode cX6_reached 26 = .ok (.iload 4, 2) := by decide +kernel
theorem dX6_reached_28 : decode cX6_reached 28 = .ok (.invokestatic 91, 3) := by decide +kernel
theorem dX6_reached_31 : decode cX6_reached 31 = .ok (.ifCond .eq 16, 3) := by decide +kernel
theorem dX6_reached_34 : decode cX6_reached 34 = .ok (.iload_n 2, 1) := by decide +kernel
theorem dX6_reached_35 : decode cX6_reached 35 = .ok (.aload_n 0, 1) := by decide +kernel
theorem dX6_reached_36 : decode cX6_reached 36 = .ok (.getfield 16, 3) := by decide +kernel
theorem dX6_reached_39 : decode cX6_reached 39 = .ok (.bipush 29, 2) := by decide +kernel
theorem dX6_reached_41 : decode cX6_reached 41 = .ok (.iload 4, 2) := by decide +kernel
theorem dX6_reached_43 : decode cX6_reached 43 = .ok (.iadd, 1) := by decide +kernel
theorem dX6_reached_44 : decode cX6_reached 44 = .ok (.iaload, 1) := by decide +kernel
theorem dX6_reached_45 : decode cX6_reached 45 = .ok (.ior, 1) := by decide +kernel
theorem dX6_reached_46 : decode cX6_reached 46 = .ok (.istore_n 2, 1) := by decide +kernel
theorem dX6_reached_47 : decode cX6_reached 47 = .ok (.iinc 4 1, 3) := by decide +kernel
theorem dX6_reached_50 : decode cX6_reached 50 = .ok (.goto (-36), 3) := by decide +kernel
theorem dX6_reached_53 : decode cX6_reached 53 = .ok (.goto (-49), 3) := by decide +kernel
theorem dX6_reached_56 : decode cX6_reached 56 = .ok (.iload_n 2, 1) := by decide +kernel
theorem dX6_reached_57 : decode cX6_reached 57 = .ok (.ireturn, 1) := by decide +kernel
theorem dX6_componentCount_0 : decode cX6_componentCount 0 = .ok (.aload_n 0, 1) := by decide +kernel
theorem dX6_componentCount_1 : decode cX6_componentCount 1 = .ok (.iconst 0, 1) := by decide +kernel
theorem dX6_componentCount_2 : decode cX6_componentCount 2 = .ok (.putfield 47, 3) := by decide +kernel
theorem dX6_componentCount_5 : decode cX6_componentCount 5 = .ok (.iconst 0, 1) := by decide +kernel
theorem dX6_componentCount_6 : decode cX6_componentCount 6 = .ok (.istore_n 1, 1) := by decide +kernel
theorem dX6_componentCount_7 : decode cX6_componentCount 7 = .ok (.iconst 0, 1) := by decide +kernel
theorem dX6_componentCount_8 : decode cX6_componentCount 8 = .ok (.istore_n 2, 1) := by decide +kernel
theorem dX6_componentCount_9 : decode cX6_componentCount 9 = .ok (.iload_n 2, 1) := by decide +kernel
theorem dX6_componentCount_10 : decode cX6_componentCount 10 = .ok (.aload_n 0, 1) := by decide +kernel
theorem dX6_componentCount_11 : decode cX6_componentCount 11 = .ok (.getfield 16, 3) := by decide +kernel
theorem dX6_componentCount_14 : decode cX6_componentCount 14 = .ok (.iconst 0, 1) := by decide +kernel
theorem dX6_componentCount_15 : decode cX6_componentCount 15 = .ok (.iaload, 1) := by decide +kernel
theorem dX6_componentCount_16 : decode cX6_componentCount 16 = .ok (.if_icmp .ge 33, 3) := by decide +kernel
theorem dX6_componentCount_19 : decode cX6_componentCount 19 = .ok (.iload_n 1, 1) := by decide +kernel
theorem dX6_componentCount_20 : decode cX6_componentCount 20 = .ok (.aload_n 0, 1) := by decide +kernel
theorem dX6_componentCount_21 : decode cX6_componentCount 21 = .ok (.iconst 1, 1) := by decide +kernel
theorem dX6_componentCount_22 : decode cX6_componentCount 22 = .ok (.iload_n 2, 1) := by decide +kernel
theorem dX6_componentCount_23 : decode cX6_componentCount 23 = .ok (.ishl, 1) := by decide +kernel
theorem dX6_componentCount_24 : decode cX6_componentCount 24 = .ok (.invokevirtual 145, 3) := by decide +kernel
theorem dX6_componentCount_27 : decode cX6_componentCount 27 = .ok (.iconst 1, 1) := by decide +kernel
theorem dX6_componentCount_28 : decode cX6_componentCount 28 = .ok (.iload_n 2, 1) := by decide +kernel
theorem dX6_componentCount_29 : decode cX6_componentCount 29 = .ok (.ishl, 1) := by decide +kernel
theorem dX6_componentCount_30 : decode cX6_componentCount 30 = .ok (.iconst 1, 1) := by decide +kernel
theorem dX6_componentCount_31 : decode cX6_componentCount 31 = .ok (.isub, 1) := by decide +kernel
theorem dX6_componentCount_32 : decode cX6_componentCount 32 = .ok (.iand, 1) := by decide +kernel
theorem dX6_componentCount_33 : decode cX6_componentCount 33 = .ok (.ifCond .ne 7, 3) := by decide +kernel
theorem dX6_componentCount_36 : decode cX6_componentCount 36 = .ok (.iconst 1, 1) := by decide +kernel
theorem dX6_componentCount_37 : decode cX6_componentCount 37 = .ok (.goto 4, 3) := by decide +kernel
theorem dX6_componentCount_40 : decode cX6_componentCount 40 = .ok (.iconst 0, 1) := by decide +kernel
theorem dX6_componentCount_41 : decode cX6_componentCount 41 = .ok (.iadd, 1) := by decide +kernel
theorem dX6_componentCount_42 : decode cX6_componentCount 42 = .ok (.istore_n 1, 1) := by decide +kernel
theorem dX6_componentCount_43 : decode cX6_componentCount 43 = .ok (.iinc 2 1, 3) := by decide +kernel
theorem dX6_componentCount_46 : decode cX6_componentCount 46 = .ok (.goto (-37), 3) := by decide +kernel
theorem dX6_componentCount_49 : decode cX6_componentCount 49 = .ok (.iload_n 1, 1) := by decide +kernel
theorem dX6_componentCount_50 : decode cX6_componentCount 50 = .ok (.ireturn, 1) := by decide +kernel
theorem dX6_componentCountByUnion_0 : decode cX6_componentCountByUnion 0 = .ok (.aload_n 0, 1) := by decide +kernel
theorem dX6_componentCountByUnion_1 : decode cX6_componentCountByUnion 1 = .ok (.invokevirtual 148, 3) := by decide +kernel
theorem dX6_componentCountByUnion_4 : decode cX6_componentCountByUnion 4 = .ok (.ireturn, 1) := by decide +kernel
theorem dX6_rumourCount_0 : decode cX6_rumourCount 0 = .ok (.aload_n 0, 1) := by decide +kernel
theorem dX6_rumourCount_1 : decode cX6_rumourCount 1 = .ok (.iconst 0, 1) := by decide +kernel
theorem dX6_rumourCount_2 : decode cX6_rumourCount 2 = .ok (.putfield 47, 3) := by decide +kernel
theorem dX6_rumourCount_5 : decode cX6_rumourCount 5 = .ok (.aload_n 0, 1) := by decide +kernel
theorem dX6_rumourCount_6 : decode cX6_rumourCount 6 = .ok (.getfield 16, 3) := by decide +kernel
theorem dX6_rumourCount_9 : decode cX6_rumourCount 9 = .ok (.iconst 1, 1) := by decide +kernel
theorem dX6_rumourCount_10 : decode cX6_rumourCount 10 = .ok (.iaload, 1) := by decide +kernel
theorem dX6_rumourCount_11 : decode cX6_rumourCount 11 = .ok (.ireturn, 1) := by decide +kernel
theorem dX6_tells_0 : decode cX6_tells 0 = .ok (.aload_n 0, 1) := by decide +kernel
theorem dX6_tells_1 : decode cX6_tells 1 = .ok (.aload_n 0, 1) := by decide +kernel
theorem dX6_tells_2 : decode cX6_tells 2 = .ok (.iload_n 1, 1) := by decide +kernel
theorem dX6_tells_3 : decode cX6_tells 3 = .ok (.invokevirtual 115, 3) := by decide +kernel
theorem dX6_tells_6 : decode cX6_tells 6 = .ok (.ifCond .eq 7, 3) := by decide +kernel
theorem dX6_tells_9 : decode cX6_tells 9 = .ok (.iconst 0, 1) := by decide +kernel
theorem dX6_tells_10 : decode cX6_tells 10 = .ok (.goto 4, 3) := by decide +kernel
theorem dX6_tells_13 : decode cX6_tells 13 = .ok (.iconst 1, 1) := by decide +kernel
theorem dX6_tells_14 : decode cX6_tells 14 = .ok (.putfield 47, 3) := by decide +kernel
theorem dX6_tells_17 : decode cX6_tells 17 = .ok (.aload_n 0, 1) := by decide +kernel
theorem dX6_tells_18 : decode cX6_tells 18 = .ok (.getfield 47, 3) := by decide +kernel
theorem dX6_tells_21 : decode cX6_tells 21 = .ok (.ifCond .ne 16, 3) := by decide +kernel
theorem dX6_tells_24 : decode cX6_tells 24 = .ok (.aload_n 0, 1) := by decide +kernel
theorem dX6_tells_25 : decode cX6_tells 25 = .ok (.getfield 16, 3) := by decide +kernel
theorem dX6_tells_28 : decode cX6_tells 28 = .ok (.iload_n 1, 1) := by decide +kernel
theorem dX6_tells_29 : decode cX6_tells 29 = .ok (.iload_n 2, 1) := by decide +kernel
theorem dX6_tells_30 : decode cX6_tells 30 = .ok (.invokestatic 61, 3) := by decide +kernel
theorem dX6_tells_33 : decode cX6_tells 33 = .ok (.iaload, 1) := by decide +kernel
theorem dX6_tells_34 : decode cX6_tells 34 = .ok (.goto 4, 3) := by decide +kernel
theorem dX6_tells_37 : decode cX6_tells 37 = .ok (.iconst 0, 1) := by decide +kernel
theorem dX6_tells_38 : decode cX6_tells 38 = .ok (.ireturn, 1) := by decide +kernel
theorem dX6_strength_0 : decode cX6_strength 0 = .ok (.aload_n 0, 1) := by decide +kernel
theorem dX6_strength_1 : decode cX6_strength 1 = .ok (.iload_n 1, 1) := by decide +kernel
theorem dX6_strength_2 : decode cX6_strength 2 = .ok (.iconst 0, 1) := by decide +kernel
theorem dX6_strength_3 : decode cX6_strength 3 = .ok (.invokevirtual 151, 3) := by decide +kernel
theorem dX6_strength_6 : decode cX6_strength 6 = .ok (.ireturn, 1) := by decide +kernel
theorem dX6_isAlive_0 : decode cX6_isAlive 0 = .ok (.aload_n 0, 1) := by decide +kernel
theorem dX6_isAlive_1 : decode cX6_isAlive 1 = .ok (.iload_n 1, 1) := by decide +kernel
theorem dX6_isAlive_2 : decode cX6_isAlive 2 = .ok (.iconst 1, 1) := by decide +kernel
theorem dX6_isAlive_3 : decode cX6_isAlive 3 = .ok (.invokevirtual 151, 3) := by decide +kernel
theorem dX6_isAlive_6 : decode cX6_isAlive 6 = .ok (.istore_n 2, 1) := by decide +kernel
theorem dX6_isAlive_7 : decode cX6_isAlive 7 = .ok (.aload_n 0, 1) := by decide +kernel
theorem dX6_isAlive_8 : decode cX6_isAlive 8 = .ok (.getfield 47, 3) := by decide +kernel
theorem dX6_isAlive_11 : decode cX6_isAlive 11 = .ok (.ifCond .ne 11, 3) := by decide +kernel
theorem dX6_isAlive_14 : decode cX6_isAlive 14 = .ok (.iload_n 2, 1) := by decide +kernel
theorem dX6_isAlive_15 : decode cX6_isAlive 15 = .ok (.ifCond .ne 7, 3) := by decide +kernel
theorem dX6_isAlive_18 : decode cX6_isAlive 18 = .ok (.iconst 1, 1) := by decide +kernel
theorem dX6_isAlive_19 : decode cX6_isAlive 19 = .ok (.goto 4, 3) := by decide +kernel
theorem dX6_isAlive_22 : decode cX6_isAlive 22 = .ok (.iconst 0, 1) := by decide +kernel
theorem dX6_isAlive_23 : decode cX6_isAlive 23 = .ok (.ireturn, 1) := by decide +kernel
theorem dX6_starter_0 : decode cX6_starter 0 = .ok (.aload_n 0, 1) := by decide +kernel
theorem dX6_starter_1 : decode cX6_starter 1 = .ok (.iload_n 1, 1) := by decide +kernel
theorem dX6_starter_2 : decode cX6_starter 2 = .ok (.iconst 2, 1) := by decide +kernel
theorem dX6_starter_3 : decode cX6_starter 3 = .ok (.invokevirtual 151, 3) := by decide +kernel
theorem dX6_starter_6 : decode cX6_starter 6 = .ok (.ireturn, 1) := by decide +kernel
theorem dX6_isOf_0 : decode cX6_isOf 0 = .ok (.aload_n 0, 1) := by decide +kernel
theorem dX6_isOf_1 : decode cX6_isOf 1 = .ok (.aload_n 0, 1) := by decide +kernel
theorem dX6_isOf_2 : decode cX6_isOf 2 = .ok (.iload_n 1, 1) := by decide +kernel
theorem dX6_isOf_3 : decode cX6_isOf 3 = .ok (.invokevirtual 115, 3) := by decide +kernel
theorem dX6_isOf_6 : decode cX6_isOf 6 = .ok (.ifCond .eq 15, 3) := by decide +kernel
theorem dX6_isOf_9 : decode cX6_isOf 9 = .ok (.aload_n 0, 1) := by decide +kernel
theorem dX6_isOf_10 : decode cX6_isOf 10 = .ok (.iload_n 2, 1) := by decide +kernel
theorem dX6_isOf_11 : decode cX6_isOf 11 = .ok (.invokevirtual 88, 3) := by decide +kernel
theorem dX6_isOf_14 : decode cX6_isOf 14 = .ok (.ifCond .eq 7, 3) := by decide +kernel
theorem dX6_isOf_17 : decode cX6_isOf 17 = .ok (.iconst 0, 1) := by decide +kernel
theorem dX6_isOf_18 : decode cX6_isOf 18 = .ok (.goto 4, 3) := by decide +kernel
theorem dX6_isOf_21 : decode cX6_isOf 21 = .ok (.iconst 1, 1) := by decide +kernel
theorem dX6_isOf_22 : decode cX6_isOf 22 = .ok (.putfield 47, 3) := by decide +kernel
theorem dX6_isOf_25 : decode cX6_isOf 25 = .ok (.aload_n 0, 1) := by decide +kernel
theorem dX6_isOf_26 : decode cX6_isOf 26 = .ok (.getfield 47, 3) := by decide +kernel
theorem dX6_isOf_29 : decode cX6_isOf 29 = .ok (.ifCond .ne 24, 3) := by decide +kernel
theorem dX6_isOf_32 : decode cX6_isOf 32 = .ok (.aload_n 0, 1) := by decide +kernel
theorem dX6_isOf_33 : decode cX6_isOf 33 = .ok (.getfield 16, 3) := by decide +kernel
theorem dX6_isOf_36 : decode cX6_isOf 36 = .ok (.iload_n 1, 1) := by decide +kernel
theorem dX6_isOf_37 : decode cX6_isOf 37 = .ok (.iload_n 3, 1) := by decide +kernel
theorem dX6_isOf_38 : decode cX6_isOf 38 = .ok (.invokestatic 61, 3) := by decide +kernel
theorem dX6_isOf_41 : decode cX6_isOf 41 = .ok (.iaload, 1) := by decide +kernel
theorem dX6_isOf_42 : decode cX6_isOf 42 = .ok (.iload_n 2, 1) := by decide +kernel
theorem dX6_isOf_43 : decode cX6_isOf 43 = .ok (.invokestatic 91, 3) := by decide +kernel
theorem dX6_isOf_46 : decode cX6_isOf 46 = .ok (.ifCond .eq 7, 3) := by decide +kernel
theorem dX6_isOf_49 : decode cX6_isOf 49 = .ok (.iconst 1, 1) := by decide +kernel
theorem dX6_isOf_50 : decode cX6_isOf 50 = .ok (.goto 4, 3) := by decide +kernel
theorem dX6_isOf_53 : decode cX6_isOf 53 = .ok (.iconst 0, 1) := by decide +kernel
theorem dX6_isOf_54 : decode cX6_isOf 54 = .ok (.ireturn, 1) := by decide +kernel
theorem dX6_isSpreader_0 : decode cX6_isSpreader 0 = .ok (.aload_n 0, 1) := by decide +kernel
theorem dX6_isSpreader_1 : decode cX6_isSpreader 1 = .ok (.iload_n 1, 1) := by decide +kernel
theorem dX6_isSpreader_2 : decode cX6_isSpreader 2 = .ok (.iload_n 2, 1) := by decide +kernel
theorem dX6_isSpreader_3 : decode cX6_isSpreader 3 = .ok (.iconst 3, 1) := by decide +kernel
theorem dX6_isSpreader_4 : decode cX6_isSpreader 4 = .ok (.invokevirtual 154, 3) := by decide +kernel
theorem dX6_isSpreader_7 : decode cX6_isSpreader 7 = .ok (.ireturn, 1) := by decide +kernel
theorem dX6_isSceptic_0 : decode cX6_isSceptic 0 = .ok (.aload_n 0, 1) := by decide +kernel
theorem dX6_isSceptic_1 : decode cX6_isSceptic 1 = .ok (.iload_n 1, 1) := by decide +kernel
theorem dX6_isSceptic_2 : decode cX6_isSceptic 2 = .ok (.iload_n 2, 1) := by decide +kernel
theorem dX6_isSceptic_3 : decode cX6_isSceptic 3 = .ok (.iconst 4, 1) := by decide +kernel
theorem dX6_isSceptic_4 : decode cX6_isSceptic 4 = .ok (.invokevirtual 154, 3) := by decide +kernel
theorem dX6_isSceptic_7 : decode cX6_isSceptic 7 = .ok (.ireturn, 1) := by decide +kernel
theorem dX6_heardRound_0 : decode cX6_heardRound 0 = .ok (.aload_n 0, 1) := by decide +kernel
theorem dX6_heardRound_1 : decode cX6_heardRound 1 = .ok (.iload_n 1, 1) := by decide +kernel
theorem dX6_heardRound_2 : decode cX6_heardRound 2 = .ok (.invokevirtual 115, 3) := by decide +kernel
theorem dX6_heardRound_5 : decode cX6_heardRound 5 = .ok (.ifCond .eq 11, 3) := by decide +kernel
theorem dX6_heardRound_8 : decode cX6_heardRound 8 = .ok (.aload_n 0, 1) := by decide +kernel
theorem dX6_heardRound_9 : decode cX6_heardRound 9 = .ok (.iload_n 2, 1) := by decide +kernel
theorem dX6_heardRound_10 : decode cX6_heardRound 10 = .ok (.invokevirtual 88, 3) := by decide +kernel
theorem dX6_heardRound_13 : decode cX6_heardRound 13 = .ok (.ifCond .ne 9, 3) := by decide +kernel
theorem dX6_heardRound_16 : decode cX6_heardRound 16 = .ok (.aload_n 0, 1) := by decide +kernel
theorem dX6_heardRound_17 : decode cX6_heardRound 17 = .ok (.iconst 1, 1) := by decide +kernel
theorem dX6_heardRound_18 : decode cX6_heardRound 18 = .ok (.invokevirtual 72, 3) := by decide +kernel
theorem dX6_heardRound_21 : decode cX6_heardRound 21 = .ok (.ireturn, 1) := by decide +kernel
theorem dX6_heardRound_22 : decode cX6_heardRound 22 = .ok (.aload_n 0, 1) := by decide +kernel
theorem dX6_heardRound_23 : decode cX6_heardRound 23 = .ok (.aload_n 0, 1) := by decide +kernel
theorem dX6_heardRound_24 : decode cX6_heardRound 24 = .ok (.iload_n 1, 1) := by decide +kernel
theorem dX6_heardRound_25 : decode cX6_heardRound 25 = .ok (.invokevirtual 127, 3) := by decide +kernel
theorem dX6_heardRound_28 : decode cX6_heardRound 28 = .ok (.iload_n 2, 1) := by decide +kernel
theorem dX6_heardRound_29 : decode cX6_heardRound 29 = .ok (.invokestatic 91, 3) := by decide +kernel
theorem dX6_heardRound_32 : decode cX6_heardRound 32 = .ok (.ifCond .eq 7, 3) := by decide +kernel
theorem dX6_heardRound_35 : decode cX6_heardRound 35 = .ok (.iconst 0, 1) := by decide +kernel
theorem dX6_heardRound_36 : decode cX6_heardRound 36 = .ok (.goto 4, 3) := by decide +kernel
theorem dX6_heardRound_39 : decode cX6_heardRound 39 = .ok (.iconst 2, 1) := by decide +kernel
theorem dX6_heardRound_40 : decode cX6_heardRound 40 = .ok (.putfield 47, 3) := by decide +kernel
theorem dX6_heardRound_43 : decode cX6_heardRound 43 = .ok (.aload_n 0, 1) := by decide +kernel
theorem dX6_heardRound_44 : decode cX6_heardRound 44 = .ok (.getfield 47, 3) := by decide +kernel
theorem dX6_heardRound_47 : decode cX6_heardRound 47 = .ok (.ifCond .ne 20, 3) := by decide +kernel
theorem dX6_heardRound_50 : decode cX6_heardRound 50 = .ok (.aload_n 0, 1) := by decide +kernel
theorem dX6_heardRound_51 : decode cX6_heardRound 51 = .ok (.getfield 16, 3) := by decide +kernel
theorem dX6_heardRound_54 : decode cX6_heardRound 54 = .ok (.bipush 61, 2) := by decide +kernel
theorem dX6_heardRound_56 : decode cX6_heardRound 56 = .ok (.bipush 12, 2) := by decide +kernel
theorem dX6_heardRound_58 : decode cX6_heardRound 58 = .ok (.iload_n 1, 1) := by decide +kernel
theorem dX6_heardRound_59 : decode cX6_heardRound 59 = .ok (.imul, 1) := by decide +kernel
theorem dX6_heardRound_60 : decode cX6_heardRound 60 = .ok (.iadd, 1) := by decide +kernel
theorem dX6_heardRound_61 : decode cX6_heardRound 61 = .ok (.iload_n 2, 1) := by decide +kernel
theorem dX6_heardRound_62 : decode cX6_heardRound 62 = .ok (.iadd, 1) := by decide +kernel
theorem dX6_heardRound_63 : decode cX6_heardRound 63 = .ok (.iaload, 1) := by decide +kernel
theorem dX6_heardRound_64 : decode cX6_heardRound 64 = .ok (.goto 4, 3) := by decide +kernel
theorem dX6_heardRound_67 : decode cX6_heardRound 67 = .ok (.iconst 0, 1) := by decide +kernel
theorem dX6_heardRound_68 : decode cX6_heardRound 68 = .ok (.ireturn, 1) := by decide +kernel
theorem dX6_spreaderCount_0 : decode cX6_spreaderCount 0 = .ok (.aload_n 0, 1) := by decide +kernel
theorem dX6_spreaderCount_1 : decode cX6_spreaderCount 1 = .ok (.iload_n 1, 1) := by decide +kernel
theorem dX6_spreaderCount_2 : decode cX6_spreaderCount 2 = .ok (.iconst 3, 1) := by decide +kernel
theorem dX6_spreaderCount_3 : decode cX6_spreaderCount 3 = .ok (.invokevirtual 151, 3) := by decide +kernel
theorem dX6_spreaderCount_6 : decode cX6_spreaderCount 6 = .ok (.invokestatic 85, 3) := by decide +kernel
theorem dX6_spreaderCount_9 : decode cX6_spreaderCount 9 = .ok (.ireturn, 1) := by decide +kernel
theorem dX6_scepticCount_0 : decode cX6_scepticCount 0 = .ok (.aload_n 0, 1) := by decide +kernel
theorem dX6_scepticCount_1 : decode cX6_scepticCount 1 = .ok (.iload_n 1, 1) := by decide +kernel
theorem dX6_scepticCount_2 : decode cX6_scepticCount 2 = .ok (.iconst 4, 1) := by decide +kernel
theorem dX6_scepticCount_3 : decode cX6_scepticCount 3 = .ok (.invokevirtual 151, 3) := by decide +kernel
theorem dX6_scepticCount_6 : decode cX6_scepticCount 6 = .ok (.invokestatic 85, 3) := by decide +kernel
theorem dX6_scepticCount_9 : decode cX6_scepticCount 9 = .ok (.ireturn, 1) := by decide +kernel
theorem dX6_inHive_0 : decode cX6_inHive 0 = .ok (.iconst 0, 1) := by decide +kernel
theorem dX6_inHive_1 : decode cX6_inHive 1 = .ok (.istore_n 3, 1) := by decide +kernel
theorem dX6_inHive_2 : decode cX6_inHive 2 = .ok (.iconst 0, 1) := by decide +kernel
theorem dX6_inHive_3 : decode cX6_inHive 3 = .ok (.istore 4, 2) := by decide +kernel
theorem dX6_inHive_5 : decode cX6_inHive 5 = .ok (.iload 4, 2) := by decide +kernel
theorem dX6_inHive_7 : decode cX6_inHive 7 = .ok (.aload_n 0, 1) := by decide +kernel
theorem dX6_inHive_8 : decode cX6_inHive 8 = .ok (.getfield 16, 3) := by decide +kernel
theorem dX6_inHive_11 : decode cX6_inHive 11 = .ok (.iconst 0, 1) := by decide +kernel
theorem dX6_inHive_12 : decode cX6_inHive 12 = .ok (.iaload, 1) := by decide +kernel
theorem dX6_inHive_13 : decode cX6_inHive 13 = .ok (.if_icmp .ge 48, 3) := by decide +kernel
theorem dX6_inHive_16 : decode cX6_inHive 16 = .ok (.iload_n 3, 1) := by decide +kernel
theorem dX6_inHive_17 : decode cX6_inHive 17 = .ok (.aload_n 0, 1) := by decide +kernel
theorem dX6_inHive_18 : decode cX6_inHive 18 = .ok (.getfield 16, 3) := by decide +kernel
theorem dX6_inHive_21 : decode cX6_inHive 21 = .ok (.iconst 5, 1) := by decide +kernel
theorem dX6_inHive_22 : decode cX6_inHive 22 = .ok (.iload 4, 2) := by decide +kernel
theorem dX6_inHive_24 : decode cX6_inHive 24 = .ok (.iadd, 1) := by decide +kernel
theorem dX6_inHive_25 : decode cX6_inHive 25 = .ok (.iaload, 1) := by decide +kernel
theorem dX6_inHive_26 : decode cX6_inHive 26 = .ok (.iload_n 2, 1) := by decide +kernel
theorem dX6_inHive_27 : decode cX6_inHive 27 = .ok (.if_icmp .ne 25, 3) := by decide +kernel
theorem dX6_inHive_30 : decode cX6_inHive 30 = .ok (.aload_n 0, 1) := by decide +kernel
theorem dX6_inHive_31 : decode cX6_inHive 31 = .ok (.getfield 16, 3) := by decide +kernel
theorem dX6_inHive_34 : decode cX6_inHive 34 = .ok (.iload_n 1, 1) := by decide +kernel
theorem dX6_inHive_35 : decode cX6_inHive 35 = .ok (.iconst 3, 1) := by decide +kernel
theorem dX6_inHive_36 : decode cX6_inHive 36 = .ok (.invokestatic 61, 3) := by decide +kernel
theorem dX6_inHive_39 : decode cX6_inHive 39 = .ok (.iaload, 1) := by decide +kernel
theorem dX6_inHive_40 : decode cX6_inHive 40 = .ok (.iload 4, 2) := by decide +kernel
theorem dX6_inHive_42 : decode cX6_inHive 42 = .ok (.invokestatic 91, 3) := by decide +kernel
theorem dX6_inHive_45 : decode cX6_inHive 45 = .ok (.ifCond .eq 7, 3) := by decide +kernel
theorem dX6_inHive_48 : decode cX6_inHive 48 = .ok (.iconst 1, 1) := by decide +kernel
theorem dX6_inHive_49 : decode cX6_inHive 49 = .ok (.goto 4, 3) := by decide +kernel
theorem dX6_inHive_52 : decode cX6_inHive 52 = .ok (.iconst 0, 1) := by decide +kernel
theorem dX6_inHive_53 : decode cX6_inHive 53 = .ok (.iadd, 1) := by decide +kernel
theorem dX6_inHive_54 : decode cX6_inHive 54 = .ok (.istore_n 3, 1) := by decide +kernel
theorem dX6_inHive_55 : decode cX6_inHive 55 = .ok (.iinc 4 1, 3) := by decide +kernel
theorem dX6_inHive_58 : decode cX6_inHive 58 = .ok (.goto (-53), 3) := by decide +kernel
theorem dX6_inHive_61 : decode cX6_inHive 61 = .ok (.iload_n 3, 1) := by decide +kernel
theorem dX6_inHive_62 : decode cX6_inHive 62 = .ok (.ireturn, 1) := by decide +kernel
theorem dX6_countedHive_0 : decode cX6_countedHive 0 = .ok (.aload_n 0, 1) := by decide +kernel
theorem dX6_countedHive_1 : decode cX6_countedHive 1 = .ok (.iload_n 1, 1) := by decide +kernel
theorem dX6_countedHive_2 : decode cX6_countedHive 2 = .ok (.invokevirtual 115, 3) := by decide +kernel
theorem dX6_countedHive_5 : decode cX6_countedHive 5 = .ok (.ifCond .ne 9, 3) := by decide +kernel
theorem dX6_countedHive_8 : decode cX6_countedHive 8 = .ok (.aload_n 0, 1) := by decide +kernel
theorem dX6_countedHive_9 : decode cX6_countedHive 9 = .ok (.iconst 1, 1) := by decide +kernel
theorem dX6_countedHive_10 : decode cX6_countedHive 10 = .ok (.invokevirtual 72, 3) := by decide +kernel
theorem dX6_countedHive_13 : decode cX6_countedHive 13 = .ok (.ireturn, 1) := by decide +kernel
theorem dX6_countedHive_14 : decode cX6_countedHive 14 = .ok (.aload_n 0, 1) := by decide +kernel
theorem dX6_countedHive_15 : decode cX6_countedHive 15 = .ok (.aload_n 0, 1) := by decide +kernel
theorem dX6_countedHive_16 : decode cX6_countedHive 16 = .ok (.getfield 16, 3) := by decide +kernel
theorem dX6_countedHive_19 : decode cX6_countedHive 19 = .ok (.iload_n 1, 1) := by decide +kernel
theorem dX6_countedHive_20 : decode cX6_countedHive 20 = .ok (.iconst 3, 1) := by decide +kernel
theorem dX6_countedHive_21 : decode cX6_countedHive 21 = .ok (.invokestatic 61, 3) := by decide +kernel
theorem dX6_countedHive_24 : decode cX6_countedHive 24 = .ok (.iaload, 1) := by decide +kernel
theorem dX6_countedHive_25 : decode cX6_countedHive 25 = .ok (.ifCond .ne 7, 3) := by decide +kernel
theorem dX6_countedHive_28 : decode cX6_countedHive 28 = .ok (.iconst 2, 1) := by decide +kernel
theorem dX6_countedHive_29 : decode cX6_countedHive 29 = .ok (.goto 4, 3) := by decide +kernel
theorem dX6_countedHive_32 : decode cX6_countedHive 32 = .ok (.iconst 0, 1) := by decide +kernel
theorem dX6_countedHive_33 : decode cX6_countedHive 33 = .ok (.putfield 47, 3) := by decide +kernel
theorem dX6_countedHive_36 : decode cX6_countedHive 36 = .ok (.iconst 0, 1) := by decide +kernel
theorem dX6_countedHive_37 : decode cX6_countedHive 37 = .ok (.istore_n 2, 1) := by decide +kernel
theorem dX6_countedHive_38 : decode cX6_countedHive 38 = .ok (.iconst 1, 1) := by decide +kernel
theorem dX6_countedHive_39 : decode cX6_countedHive 39 = .ok (.istore_n 3, 1) := by decide +kernel
theorem dX6_countedHive_40 : decode cX6_countedHive 40 = .ok (.iload_n 3, 1) := by decide +kernel
theorem dX6_countedHive_41 : decode cX6_countedHive 41 = .ok (.iconst 4, 1) := by decide +kernel
theorem dX6_countedHive_42 : decode cX6_countedHive 42 = .ok (.if_icmp .ge 26, 3) := by decide +kernel
theorem dX6_countedHive_45 : decode cX6_countedHive 45 = .ok (.aload_n 0, 1) := by decide +kernel
theorem dX6_countedHive_46 : decode cX6_countedHive 46 = .ok (.iload_n 1, 1) := by decide +kernel
theorem dX6_countedHive_47 : decode cX6_countedHive 47 = .ok (.iload_n 3, 1) := by decide +kernel
theorem dX6_countedHive_48 : decode cX6_countedHive 48 = .ok (.invokevirtual 157, 3) := by decide +kernel
theorem dX6_countedHive_51 : decode cX6_countedHive 51 = .ok (.aload_n 0, 1) := by decide +kernel
theorem dX6_countedHive_52 : decode cX6_countedHive 52 = .ok (.iload_n 1, 1) := by decide +kernel
theorem dX6_countedHive_53 : decode cX6_countedHive 53 = .ok (.iload_n 2, 1) := by decide +kernel
theorem dX6_countedHive_54 : decode cX6_countedHive 54 = .ok (.invokevirtual 157, 3) := by decide +kernel
theorem dX6_countedHive_57 : decode cX6_countedHive 57 = .ok (.if_icmp .le 5, 3) := by decide +kernel
theorem dX6_countedHive_60 : decode cX6_countedHive 60 = .ok (.iload_n 3, 1) := by decide +kernel
theorem dX6_countedHive_61 : decode cX6_countedHive 61 = .ok (.istore_n 2, 1) := by decide +kernel
theorem dX6_countedHive_62 : decode cX6_countedHive 62 = .ok (.iinc 3 1, 3) := by decide +kernel
theorem dX6_countedHive_65 : decode cX6_countedHive 65 = .ok (.goto (-25), 3) := by decide +kernel
theorem dX6_countedHive_68 : decode cX6_countedHive 68 = .ok (.aload_n 0, 1) := by decide +kernel
theorem dX6_countedHive_69 : decode cX6_countedHive 69 = .ok (.getfield 47, 3) := by decide +kernel
theorem dX6_countedHive_72 : decode cX6_countedHive 72 = .ok (.ifCond .ne 7, 3) := by decide +kernel
theorem dX6_countedHive_75 : decode cX6_countedHive 75 = .ok (.iload_n 2, 1) := by decide +kernel
theorem dX6_countedHive_76 : decode cX6_countedHive 76 = .ok (.goto 4, 3) := by decide +kernel
theorem dX6_countedHive_79 : decode cX6_countedHive 79 = .ok (.iconst 0, 1) := by decide +kernel
theorem dX6_countedHive_80 : decode cX6_countedHive 80 = .ok (.ireturn, 1) := by decide +kernel
theorem dX6_spreadersInHive_0 : decode cX6_spreadersInHive 0 = .ok (.aload_n 0, 1) := by decide +kernel
theorem dX6_spreadersInHive_1 : decode cX6_spreadersInHive 1 = .ok (.aload_n 0, 1) := by decide +kernel
theorem dX6_spreadersInHive_2 : decode cX6_spreadersInHive 2 = .ok (.iload_n 1, 1) := by decide +kernel
theorem dX6_spreadersInHive_3 : decode cX6_spreadersInHive 3 = .ok (.invokevirtual 115, 3) := by decide +kernel
theorem dX6_spreadersInHive_6 : decode cX6_spreadersInHive 6 = .ok (.ifCond .eq 14, 3) := by decide +kernel
theorem dX6_spreadersInHive_9 : decode cX6_spreadersInHive 9 = .ok (.iload_n 2, 1) := by decide +kernel
theorem dX6_spreadersInHive_10 : decode cX6_spreadersInHive 10 = .ok (.invokestatic 65, 3) := by decide +kernel
theorem dX6_spreadersInHive_13 : decode cX6_spreadersInHive 13 = .ok (.ifCond .eq 7, 3) := by decide +kernel
theorem dX6_spreadersInHive_16 : decode cX6_spreadersInHive 16 = .ok (.iconst 0, 1) := by decide +kernel
theorem dX6_spreadersInHive_17 : decode cX6_spreadersInHive 17 = .ok (.goto 4, 3) := by decide +kernel
theorem dX6_spreadersInHive_20 : decode cX6_spreadersInHive 20 = .ok (.iconst 1, 1) := by decide +kernel
theorem dX6_spreadersInHive_21 : decode cX6_spreadersInHive 21 = .ok (.putfield 47, 3) := by decide +kernel
theorem dX6_spreadersInHive_24 : decode cX6_spreadersInHive 24 = .ok (.aload_n 0, 1) := by decide +kernel
theorem dX6_spreadersInHive_25 : decode cX6_spreadersInHive 25 = .ok (.getfield 47, 3) := by decide +kernel
theorem dX6_spreadersInHive_28 : decode cX6_spreadersInHive 28 = .ok (.ifCond .ne 12, 3) := by decide +kernel
theorem dX6_spreadersInHive_31 : decode cX6_spreadersInHive 31 = .ok (.aload_n 0, 1) := by decide +kernel
theorem dX6_spreadersInHive_32 : decode cX6_spreadersInHive 32 = .ok (.iload_n 1, 1) := by decide +kernel
theorem dX6_spreadersInHive_33 : decode cX6_spreadersInHive 33 = .ok (.iload_n 2, 1) := by decide +kernel
theorem dX6_spreadersInHive_34 : decode cX6_spreadersInHive 34 = .ok (.invokevirtual 157, 3) := by decide +kernel
theorem dX6_spreadersInHive_37 : decode cX6_spreadersInHive 37 = .ok (.goto 4, 3) := by decide +kernel
theorem dX6_spreadersInHive_40 : decode cX6_spreadersInHive 40 = .ok (.iconst 0, 1) := by decide +kernel
theorem dX6_spreadersInHive_41 : decode cX6_spreadersInHive 41 = .ok (.ireturn, 1) := by decide +kernel
theorem dX6_distance_0 : decode cX6_distance 0 = .ok (.aload_n 0, 1) := by decide +kernel
theorem dX6_distance_1 : decode cX6_distance 1 = .ok (.iload_n 1, 1) := by decide +kernel
theorem dX6_distance_2 : decode cX6_distance 2 = .ok (.invokevirtual 115, 3) := by decide +kernel
theorem dX6_distance_5 : decode cX6_distance 5 = .ok (.ifCond .eq 11, 3) := by decide +kernel
theorem dX6_distance_8 : decode cX6_distance 8 = .ok (.aload_n 0, 1) := by decide +kernel
theorem dX6_distance_9 : decode cX6_distance 9 = .ok (.iload_n 2, 1) := by decide +kernel
theorem dX6_distance_10 : decode cX6_distance 10 = .ok (.invokevirtual 88, 3) := by decide +kernel
theorem dX6_distance_13 : decode cX6_distance 13 = .ok (.ifCond .ne 9, 3) := by decide +kernel
theorem dX6_distance_16 : decode cX6_distance 16 = .ok (.aload_n 0, 1) := by decide +kernel
theorem dX6_distance_17 : decode cX6_distance 17 = .ok (.iconst 1, 1) := by decide +kernel
theorem dX6_distance_18 : decode cX6_distance 18 = .ok (.invokevirtual 72, 3) := by decide +kernel
theorem dX6_distance_21 : decode cX6_distance 21 = .ok (.ireturn, 1) := by decide +kernel
theorem dX6_distance_22 : decode cX6_distance 22 = .ok (.aload_n 0, 1) := by decide +kernel
theorem dX6_distance_23 : decode cX6_distance 23 = .ok (.iconst 0, 1) := by decide +kernel
theorem dX6_distance_24 : decode cX6_distance 24 = .ok (.putfield 47, 3) := by decide +kernel
theorem dX6_distance_27 : decode cX6_distance 27 = .ok (.iconst 1, 1) := by decide +kernel
theorem dX6_distance_28 : decode cX6_distance 28 = .ok (.iload_n 2, 1) := by decide +kernel
theorem dX6_distance_29 : decode cX6_distance 29 = .ok (.ishl, 1) := by decide +kernel
theorem dX6_distance_30 : decode cX6_distance 30 = .ok (.istore_n 3, 1) := by decide +kernel
theorem dX6_distance_31 : decode cX6_distance 31 = .ok (.iconst 0, 1) := by decide +kernel
theorem dX6_distance_32 : decode cX6_distance 32 = .ok (.istore 4, 2) := by decide +kernel
theorem dX6_distance_34 : decode cX6_distance 34 = .ok (.iconst 0, 1) := by decide +kernel
theorem dX6_distance_35 : decode cX6_distance 35 = .ok (.istore 5, 2) := by decide +kernel
theorem dX6_distance_37 : decode cX6_distance 37 = .ok (.iload_n 3, 1) := by decide +kernel
theorem dX6_distance_38 : decode cX6_distance 38 = .ok (.aload_n 0, 1) := by decide +kernel
theorem dX6_distance_39 : decode cX6_distance 39 = .ok (.getfield 16, 3) := by decide +kernel
theorem dX6_distance_42 : decode cX6_distance 42 = .ok (.iload_n 1, 1) := by decide +kernel
theorem dX6_distance_43 : decode cX6_distance 43 = .ok (.iconst 3, 1) := by decide +kernel
theorem dX6_distance_44 : decode cX6_distance 44 = .ok (.invokestatic 61, 3) := by decide +kernel
theorem dX6_distance_47 : decode cX6_distance 47 = .ok (.iaload, 1) := by decide +kernel
theorem dX6_distance_48 : decode cX6_distance 48 = .ok (.iand, 1) := by decide +kernel
theorem dX6_distance_49 : decode cX6_distance 49 = .ok (.ifCond .ne 61, 3) := by decide +kernel
theorem dX6_distance_52 : decode cX6_distance 52 = .ok (.iload_n 3, 1) := by decide +kernel
theorem dX6_distance_53 : decode cX6_distance 53 = .ok (.iload 4, 2) := by decide +kernel
theorem dX6_distance_55 : decode cX6_distance 55 = .ok (.if_icmp .eq 55, 3) := by decide +kernel
theorem dX6_distance_58 : decode cX6_distance 58 = .ok (.iload_n 3, 1) := by decide +kernel
theorem dX6_distance_59 : decode cX6_distance 59 = .ok (.istore 4, 2) := by decide +kernel
theorem dX6_distance_61 : decode cX6_distance 61 = .ok (.iconst 0, 1) := by decide +kernel
theorem dX6_distance_62 : decode cX6_distance 62 = .ok (.istore 6, 2) := by decide +kernel
theorem dX6_distance_64 : decode cX6_distance 64 = .ok (.iload 6, 2) := by decide +kernel
theorem dX6_distance_66 : decode cX6_distance 66 = .ok (.aload_n 0, 1) := by decide +kernel
theorem dX6_distance_67 : decode cX6_distance 67 = .ok (.getfield 16, 3) := by decide +kernel
theorem dX6_distance_70 : decode cX6_distance 70 = .ok (.iconst 0, 1) := by decide +kernel
theorem dX6_distance_71 : decode cX6_distance 71 = .ok (.iaload, 1) := by decide +kernel
theorem dX6_distance_72 : decode cX6_distance 72 = .ok (.if_icmp .ge 32, 3) := by decide +kernel
theorem dX6_distance_75 : decode cX6_distance 75 = .ok (.iload 4, 2) := by decide +kernel
theorem dX6_distance_77 : decode cX6_distance 77 = .ok (.iload 6, 2) := by decide +kernel
theorem dX6_distance_79 : decode cX6_distance 79 = .ok (.invokestatic 91, 3) := by decide +kernel
theorem dX6_distance_82 : decode cX6_distance 82 = .ok (.ifCond .eq 16, 3) := by decide +kernel
theorem dX6_distance_85 : decode cX6_distance 85 = .ok (.iload_n 3, 1) := by decide +kernel
theorem dX6_distance_86 : decode cX6_distance 86 = .ok (.aload_n 0, 1) := by decide +kernel
theorem dX6_distance_87 : decode cX6_distance 87 = .ok (.getfield 16, 3) := by decide +kernel
theorem dX6_distance_90 : decode cX6_distance 90 = .ok (.bipush 29, 2) := by decide +kernel
theorem dX6_distance_92 : decode cX6_distance 92 = .ok (.iload 6, 2) := by decide +kernel
theorem dX6_distance_94 : decode cX6_distance 94 = .ok (.iadd, 1) := by decide +kernel
theorem dX6_distance_95 : decode cX6_distance 95 = .ok (.iaload, 1) := by decide +kernel
theorem dX6_distance_96 : decode cX6_distance 96 = .ok (.ior, 1) := by decide +kernel
theorem dX6_distance_97 : decode cX6_distance 97 = .ok (.istore_n 3, 1) := by decide +kernel
theorem dX6_distance_98 : decode cX6_distance 98 = .ok (.iinc 6 1, 3) := by decide +kernel
theorem dX6_distance_101 : decode cX6_distance 101 = .ok (.goto (-37), 3) := by decide +kernel
theorem dX6_distance_104 : decode cX6_distance 104 = .ok (.iinc 5 1, 3) := by decide +kernel
theorem dX6_distance_107 : decode cX6_distance 107 = .ok (.goto (-70), 3) := by decide +kernel
theorem dX6_distance_110 : decode cX6_distance 110 = .ok (.iload_n 3, 1) := by decide +kernel
theorem dX6_distance_111 : decode cX6_distance 111 = .ok (.aload_n 0, 1) := by decide +kernel
theorem dX6_distance_112 : decode cX6_distance 112 = .ok (.getfield 16, 3) := by decide +kernel
theorem dX6_distance_115 : decode cX6_distance 115 = .ok (.iload_n 1, 1) := by decide +kernel
theorem dX6_distance_116 : decode cX6_distance 116 = .ok (.iconst 3, 1) := by decide +kernel
theorem dX6_distance_117 : decode cX6_distance 117 = .ok (.invokestatic 61, 3) := by decide +kernel
theorem dX6_distance_120 : decode cX6_distance 120 = .ok (.iaload, 1) := by decide +kernel
theorem dX6_distance_121 : decode cX6_distance 121 = .ok (.iand, 1) := by decide +kernel
theorem dX6_distance_122 : decode cX6_distance 122 = .ok (.ifCond .ne 11, 3) := by decide +kernel
theorem dX6_distance_125 : decode cX6_distance 125 = .ok (.aload_n 0, 1) := by decide +kernel
theorem dX6_distance_126 : decode cX6_distance 126 = .ok (.iconst 2, 1) := by decide +kernel
theorem dX6_distance_127 : decode cX6_distance 127 = .ok (.invokevirtual 72, 3) := by decide +kernel
theorem dX6_distance_130 : decode cX6_distance 130 = .ok (.goto 5, 3) := by decide +kernel
theorem dX6_distance_133 : decode cX6_distance 133 = .ok (.iload 5, 2) := by decide +kernel
theorem dX6_distance_135 : decode cX6_distance 135 = .ok (.ireturn, 1) := by decide +kernel
theorem dX6_distanceByRelaxation_0 : decode cX6_distanceByRelaxation 0 = .ok (.aload_n 0, 1) := by decide +kernel
theorem dX6_distanceByRelaxation_1 : decode cX6_distanceByRelaxation 1 = .ok (.iload_n 1, 1) := by decide +kernel
theorem dX6_distanceByRelaxation_2 : decode cX6_distanceByRelaxation 2 = .ok (.iload_n 2, 1) := by decide +kernel
theorem dX6_distanceByRelaxation_3 : decode cX6_distanceByRelaxation 3 = .ok (.invokevirtual 160, 3) := by decide +kernel
theorem dX6_distanceByRelaxation_6 : decode cX6_distanceByRelaxation 6 = .ok (.ireturn, 1) := by decide +kernel
theorem dX6_nextSpreaders_0 : decode cX6_nextSpreaders 0 = .ok (.aload_n 0, 1) := by decide +kernel
theorem dX6_nextSpreaders_1 : decode cX6_nextSpreaders 1 = .ok (.aload_n 0, 1) := by decide +kernel
theorem dX6_nextSpreaders_2 : decode cX6_nextSpreaders 2 = .ok (.iload_n 1, 1) := by decide +kernel
theorem dX6_nextSpreaders_3 : decode cX6_nextSpreaders 3 = .ok (.invokevirtual 115, 3) := by decide +kernel
theorem dX6_nextSpreaders_6 : decode cX6_nextSpreaders 6 = .ok (.ifCond .eq 7, 3) := by decide +kernel
theorem dX6_nextSpreaders_9 : decode cX6_nextSpreaders 9 = .ok (.iconst 0, 1) := by decide +kernel
theorem dX6_nextSpreaders_10 : decode cX6_nextSpreaders 10 = .ok (.goto 4, 3) := by decide +kernel
theorem dX6_nextSpreaders_13 : decode cX6_nextSpreaders 13 = .ok (.iconst 1, 1) := by decide +kernel
theorem dX6_nextSpreaders_14 : decode cX6_nextSpreaders 14 = .ok (.putfield 47, 3) := by decide +kernel
theorem dX6_nextSpreaders_17 : decode cX6_nextSpreaders 17 = .ok (.aload_n 0, 1) := by decide +kernel
theorem dX6_nextSpreaders_18 : decode cX6_nextSpreaders 18 = .ok (.getfield 47, 3) := by decide +kernel
theorem dX6_nextSpreaders_21 : decode cX6_nextSpreaders 21 = .ok (.ifCond .ne 14, 3) := by decide +kernel
theorem dX6_nextSpreaders_24 : decode cX6_nextSpreaders 24 = .ok (.aload_n 0, 1) := by decide +kernel
theorem dX6_nextSpreaders_25 : decode cX6_nextSpreaders 25 = .ok (.iload_n 1, 1) := by decide +kernel
theorem dX6_nextSpreaders_26 : decode cX6_nextSpreaders 26 = .ok (.invokevirtual 133, 3) := by decide +kernel
theorem dX6_nextSpreaders_29 : decode cX6_nextSpreaders 29 = .ok (.invokestatic 85, 3) := by decide +kernel
theorem dX6_nextSpreaders_32 : decode cX6_nextSpreaders 32 = .ok (.goto 4, 3) := by decide +kernel
theorem dX6_nextSpreaders_35 : decode cX6_nextSpreaders 35 = .ok (.iconst 0, 1) := by decide +kernel
theorem dX6_nextSpreaders_36 : decode cX6_nextSpreaders 36 = .ok (.ireturn, 1) := by decide +kernel
theorem dX6_roundsUntilHeard_0 : decode cX6_roundsUntilHeard 0 = .ok (.aload_n 0, 1) := by decide +kernel
theorem dX6_roundsUntilHeard_1 : decode cX6_roundsUntilHeard 1 = .ok (.iload_n 1, 1) := by decide +kernel
theorem dX6_roundsUntilHeard_2 : decode cX6_roundsUntilHeard 2 = .ok (.invokevirtual 115, 3) := by decide +kernel
theorem dX6_roundsUntilHeard_5 : decode cX6_roundsUntilHeard 5 = .ok (.ifCond .eq 11, 3) := by decide +kernel
theorem dX6_roundsUntilHeard_8 : decode cX6_roundsUntilHeard 8 = .ok (.aload_n 0, 1) := by decide +kernel
theorem dX6_roundsUntilHeard_9 : decode cX6_roundsUntilHeard 9 = .ok (.iload_n 2, 1) := by decide +kernel
theorem dX6_roundsUntilHeard_10 : decode cX6_roundsUntilHeard 10 = .ok (.invokevirtual 88, 3) := by decide +kernel
theorem dX6_roundsUntilHeard_13 : decode cX6_roundsUntilHeard 13 = .ok (.ifCond .ne 9, 3) := by decide +kernel
theorem dX6_roundsUntilHeard_16 : decode cX6_roundsUntilHeard 16 = .ok (.aload_n 0, 1) := by decide +kernel
theorem dX6_roundsUntilHeard_17 : decode cX6_roundsUntilHeard 17 = .ok (.iconst 1, 1) := by decide +kernel
theorem dX6_roundsUntilHeard_18 : decode cX6_roundsUntilHeard 18 = .ok (.invokevirtual 72, 3) := by decide +kernel
theorem dX6_roundsUntilHeard_21 : decode cX6_roundsUntilHeard 21 = .ok (.ireturn, 1) := by decide +kernel
theorem dX6_roundsUntilHeard_22 : decode cX6_roundsUntilHeard 22 = .ok (.aload_n 0, 1) := by decide +kernel
theorem dX6_roundsUntilHeard_23 : decode cX6_roundsUntilHeard 23 = .ok (.iload_n 1, 1) := by decide +kernel
theorem dX6_roundsUntilHeard_24 : decode cX6_roundsUntilHeard 24 = .ok (.invokevirtual 127, 3) := by decide +kernel
theorem dX6_roundsUntilHeard_27 : decode cX6_roundsUntilHeard 27 = .ok (.iload_n 2, 1) := by decide +kernel
theorem dX6_roundsUntilHeard_28 : decode cX6_roundsUntilHeard 28 = .ok (.invokestatic 91, 3) := by decide +kernel
theorem dX6_roundsUntilHeard_31 : decode cX6_roundsUntilHeard 31 = .ok (.ifCond .eq 9, 3) := by decide +kernel
theorem dX6_roundsUntilHeard_34 : decode cX6_roundsUntilHeard 34 = .ok (.aload_n 0, 1) := by decide +kernel
theorem dX6_roundsUntilHeard_35 : decode cX6_roundsUntilHeard 35 = .ok (.iconst 2, 1) := by decide +kernel
theorem dX6_roundsUntilHeard_36 : decode cX6_roundsUntilHeard 36 = .ok (.invokevirtual 72, 3) := by decide +kernel
theorem dX6_roundsUntilHeard_39 : decode cX6_roundsUntilHeard 39 = .ok (.ireturn, 1) := by decide +kernel
theorem dX6_roundsUntilHeard_40 : decode cX6_roundsUntilHeard 40 = .ok (.aload_n 0, 1) := by decide +kernel
theorem dX6_roundsUntilHeard_41 : decode cX6_roundsUntilHeard 41 = .ok (.iconst 0, 1) := by decide +kernel
theorem dX6_roundsUntilHeard_42 : decode cX6_roundsUntilHeard 42 = .ok (.putfield 47, 3) := by decide +kernel
theorem dX6_roundsUntilHeard_45 : decode cX6_roundsUntilHeard 45 = .ok (.aload_n 0, 1) := by decide +kernel
theorem dX6_roundsUntilHeard_46 : decode cX6_roundsUntilHeard 46 = .ok (.getfield 26, 3) := by decide +kernel
theorem dX6_roundsUntilHeard_49 : decode cX6_roundsUntilHeard 49 = .ok (.aload_n 0, 1) := by decide +kernel
theorem dX6_roundsUntilHeard_50 : decode cX6_roundsUntilHeard 50 = .ok (.getfield 16, 3) := by decide +kernel
theorem dX6_roundsUntilHeard_53 : decode cX6_roundsUntilHeard 53 = .ok (.invokestatic 50, 3) := by decide +kernel
theorem dX6_roundsUntilHeard_56 : decode cX6_roundsUntilHeard 56 = .ok (.iconst 0, 1) := by decide +kernel
theorem dX6_roundsUntilHeard_57 : decode cX6_roundsUntilHeard 57 = .ok (.istore_n 3, 1) := by decide +kernel
theorem dX6_roundsUntilHeard_58 : decode cX6_roundsUntilHeard 58 = .ok (.iconst 0, 1) := by decide +kernel
theorem dX6_roundsUntilHeard_59 : decode cX6_roundsUntilHeard 59 = .ok (.istore 4, 2) := by decide +kernel
theorem dX6_roundsUntilHeard_61 : decode cX6_roundsUntilHeard 61 = .ok (.iload_n 3, 1) := by decide +kernel
theorem dX6_roundsUntilHeard_62 : decode cX6_roundsUntilHeard 62 = .ok (.bipush 40, 2) := by decide +kernel
theorem dX6_roundsUntilHeard_64 : decode cX6_roundsUntilHeard 64 = .ok (.if_icmp .ge 31, 3) := by decide +kernel
theorem dX6_roundsUntilHeard_67 : decode cX6_roundsUntilHeard 67 = .ok (.aload_n 0, 1) := by decide +kernel
theorem dX6_roundsUntilHeard_68 : decode cX6_roundsUntilHeard 68 = .ok (.iload_n 1, 1) := by decide +kernel
theorem dX6_roundsUntilHeard_69 : decode cX6_roundsUntilHeard 69 = .ok (.invokevirtual 127, 3) := by decide +kernel
theorem dX6_roundsUntilHeard_72 : decode cX6_roundsUntilHeard 72 = .ok (.iload_n 2, 1) := by decide +kernel
theorem dX6_roundsUntilHeard_73 : decode cX6_roundsUntilHeard 73 = .ok (.invokestatic 91, 3) := by decide +kernel
theorem dX6_roundsUntilHeard_76 : decode cX6_roundsUntilHeard 76 = .ok (.ifCond .ne 19, 3) := by decide +kernel
theorem dX6_roundsUntilHeard_79 : decode cX6_roundsUntilHeard 79 = .ok (.iload 4, 2) := by decide +kernel
theorem dX6_roundsUntilHeard_81 : decode cX6_roundsUntilHeard 81 = .ok (.aload_n 0, 1) := by decide +kernel
theorem dX6_roundsUntilHeard_82 : decode cX6_roundsUntilHeard 82 = .ok (.iconst 1, 1) := by decide +kernel
theorem dX6_roundsUntilHeard_83 : decode cX6_roundsUntilHeard 83 = .ok (.invokevirtual 139, 3) := by decide +kernel
theorem dX6_roundsUntilHeard_86 : decode cX6_roundsUntilHeard 86 = .ok (.iadd, 1) := by decide +kernel
theorem dX6_roundsUntilHeard_87 : decode cX6_roundsUntilHeard 87 = .ok (.istore 4, 2) := by decide +kernel
theorem dX6_roundsUntilHeard_89 : decode cX6_roundsUntilHeard 89 = .ok (.iinc 3 1, 3) := by decide +kernel
theorem dX6_roundsUntilHeard_92 : decode cX6_roundsUntilHeard 92 = .ok (.goto (-31), 3) := by decide +kernel
theorem dX6_roundsUntilHeard_95 : decode cX6_roundsUntilHeard 95 = .ok (.aload_n 0, 1) := by decide +kernel
theorem dX6_roundsUntilHeard_96 : decode cX6_roundsUntilHeard 96 = .ok (.iload_n 1, 1) := by decide +kernel
theorem dX6_roundsUntilHeard_97 : decode cX6_roundsUntilHeard 97 = .ok (.invokevirtual 127, 3) := by decide +kernel
theorem dX6_roundsUntilHeard_100 : decode cX6_roundsUntilHeard 100 = .ok (.iload_n 2, 1) := by decide +kernel
theorem dX6_roundsUntilHeard_101 : decode cX6_roundsUntilHeard 101 = .ok (.invokestatic 91, 3) := by decide +kernel
theorem dX6_roundsUntilHeard_104 : decode cX6_roundsUntilHeard 104 = .ok (.istore 5, 2) := by decide +kernel
theorem dX6_roundsUntilHeard_106 : decode cX6_roundsUntilHeard 106 = .ok (.aload_n 0, 1) := by decide +kernel
theorem dX6_roundsUntilHeard_107 : decode cX6_roundsUntilHeard 107 = .ok (.getfield 16, 3) := by decide +kernel
theorem dX6_roundsUntilHeard_110 : decode cX6_roundsUntilHeard 110 = .ok (.aload_n 0, 1) := by decide +kernel
theorem dX6_roundsUntilHeard_111 : decode cX6_roundsUntilHeard 111 = .ok (.getfield 26, 3) := by decide +kernel
theorem dX6_roundsUntilHeard_114 : decode cX6_roundsUntilHeard 114 = .ok (.invokestatic 50, 3) := by decide +kernel
theorem dX6_roundsUntilHeard_117 : decode cX6_roundsUntilHeard 117 = .ok (.iload 5, 2) := by decide +kernel
theorem dX6_roundsUntilHeard_119 : decode cX6_roundsUntilHeard 119 = .ok (.ifCond .eq 7, 3) := by decide +kernel
theorem dX6_roundsUntilHeard_122 : decode cX6_roundsUntilHeard 122 = .ok (.iload_n 3, 1) := by decide +kernel
theorem dX6_roundsUntilHeard_123 : decode cX6_roundsUntilHeard 123 = .ok (.goto 8, 3) := by decide +kernel
theorem dX6_roundsUntilHeard_126 : decode cX6_roundsUntilHeard 126 = .ok (.aload_n 0, 1) := by decide +kernel
theorem dX6_roundsUntilHeard_127 : decode cX6_roundsUntilHeard 127 = .ok (.iconst 3, 1) := by decide +kernel
theorem dX6_roundsUntilHeard_128 : decode cX6_roundsUntilHeard 128 = .ok (.invokevirtual 72, 3) := by decide +kernel
theorem dX6_roundsUntilHeard_131 : decode cX6_roundsUntilHeard 131 = .ok (.ireturn, 1) := by decide +kernel
theorem dX6_spreadersAfter_0 : decode cX6_spreadersAfter 0 = .ok (.aload_n 0, 1) := by decide +kernel
theorem dX6_spreadersAfter_1 : decode cX6_spreadersAfter 1 = .ok (.aload_n 0, 1) := by decide +kernel
theorem dX6_spreadersAfter_2 : decode cX6_spreadersAfter 2 = .ok (.iload_n 1, 1) := by decide +kernel
theorem dX6_spreadersAfter_3 : decode cX6_spreadersAfter 3 = .ok (.invokevirtual 115, 3) := by decide +kernel
theorem dX6_spreadersAfter_6 : decode cX6_spreadersAfter 6 = .ok (.ifCond .ne 7, 3) := by decide +kernel
theorem dX6_spreadersAfter_9 : decode cX6_spreadersAfter 9 = .ok (.iconst 1, 1) := by decide +kernel
theorem dX6_spreadersAfter_10 : decode cX6_spreadersAfter 10 = .ok (.goto 18, 3) := by decide +kernel
theorem dX6_spreadersAfter_13 : decode cX6_spreadersAfter 13 = .ok (.iload_n 2, 1) := by decide +kernel
theorem dX6_spreadersAfter_14 : decode cX6_spreadersAfter 14 = .ok (.iconst 0, 1) := by decide +kernel
theorem dX6_spreadersAfter_15 : decode cX6_spreadersAfter 15 = .ok (.bipush 40, 2) := by decide +kernel
theorem dX6_spreadersAfter_17 : decode cX6_spreadersAfter 17 = .ok (.invokestatic 57, 3) := by decide +kernel
theorem dX6_spreadersAfter_20 : decode cX6_spreadersAfter 20 = .ok (.ifCond .eq 7, 3) := by decide +kernel
theorem dX6_spreadersAfter_23 : decode cX6_spreadersAfter 23 = .ok (.iconst 0, 1) := by decide +kernel
theorem dX6_spreadersAfter_24 : decode cX6_spreadersAfter 24 = .ok (.goto 4, 3) := by decide +kernel
theorem dX6_spreadersAfter_27 : decode cX6_spreadersAfter 27 = .ok (.iconst 2, 1) := by decide +kernel
theorem dX6_spreadersAfter_28 : decode cX6_spreadersAfter 28 = .ok (.putfield 47, 3) := by decide +kernel
theorem dX6_spreadersAfter_31 : decode cX6_spreadersAfter 31 = .ok (.aload_n 0, 1) := by decide +kernel
theorem dX6_spreadersAfter_32 : decode cX6_spreadersAfter 32 = .ok (.getfield 47, 3) := by decide +kernel
theorem dX6_spreadersAfter_35 : decode cX6_spreadersAfter 35 = .ok (.ifCond .eq 5, 3) := by decide +kernel
theorem dX6_spreadersAfter_38 : decode cX6_spreadersAfter 38 = .ok (.iconst 0, 1) := by decide +kernel
theorem dX6_spreadersAfter_39 : decode cX6_spreadersAfter 39 = .ok (.ireturn, 1) := by decide +kernel
theorem dX6_spreadersAfter_40 : decode cX6_spreadersAfter 40 = .ok (.aload_n 0, 1) := by decide +kernel
theorem dX6_spreadersAfter_41 : decode cX6_spreadersAfter 41 = .ok (.getfield 26, 3) := by decide +kernel
theorem dX6_spreadersAfter_44 : decode cX6_spreadersAfter 44 = .ok (.aload_n 0, 1) := by decide +kernel
theorem dX6_spreadersAfter_45 : decode cX6_spreadersAfter 45 = .ok (.getfield 16, 3) := by decide +kernel
theorem dX6_spreadersAfter_48 : decode cX6_spreadersAfter 48 = .ok (.invokestatic 50, 3) := by decide +kernel
theorem dX6_spreadersAfter_51 : decode cX6_spreadersAfter 51 = .ok (.aload_n 0, 1) := by decide +kernel
theorem dX6_spreadersAfter_52 : decode cX6_spreadersAfter 52 = .ok (.iload_n 2, 1) := by decide +kernel
theorem dX6_spreadersAfter_53 : decode cX6_spreadersAfter 53 = .ok (.invokevirtual 139, 3) := by decide +kernel
theorem dX6_spreadersAfter_56 : decode cX6_spreadersAfter 56 = .ok (.istore_n 3, 1) := by decide +kernel
theorem dX6_spreadersAfter_57 : decode cX6_spreadersAfter 57 = .ok (.aload_n 0, 1) := by decide +kernel
theorem dX6_spreadersAfter_58 : decode cX6_spreadersAfter 58 = .ok (.getfield 16, 3) := by decide +kernel
theorem dX6_spreadersAfter_61 : decode cX6_spreadersAfter 61 = .ok (.iload_n 1, 1) := by decide +kernel
theorem dX6_spreadersAfter_62 : decode cX6_spreadersAfter 62 = .ok (.iconst 3, 1) := by decide +kernel
theorem dX6_spreadersAfter_63 : decode cX6_spreadersAfter 63 = .ok (.invokestatic 61, 3) := by decide +kernel
theorem dX6_spreadersAfter_66 : decode cX6_spreadersAfter 66 = .ok (.iaload, 1) := by decide +kernel
theorem dX6_spreadersAfter_67 : decode cX6_spreadersAfter 67 = .ok (.invokestatic 85, 3) := by decide +kernel
theorem dX6_spreadersAfter_70 : decode cX6_spreadersAfter 70 = .ok (.istore 4, 2) := by decide +kernel
theorem dX6_spreadersAfter_72 : decode cX6_spreadersAfter 72 = .ok (.aload_n 0, 1) := by decide +kernel
theorem dX6_spreadersAfter_73 : decode cX6_spreadersAfter 73 = .ok (.getfield 16, 3) := by decide +kernel
theorem dX6_spreadersAfter_76 : decode cX6_spreadersAfter 76 = .ok (.aload_n 0, 1) := by decide +kernel
theorem dX6_spreadersAfter_77 : decode cX6_spreadersAfter 77 = .ok (.getfield 26, 3) := by decide +kernel
theorem dX6_spreadersAfter_80 : decode cX6_spreadersAfter 80 = .ok (.invokestatic 50, 3) := by decide +kernel
theorem dX6_spreadersAfter_83 : decode cX6_spreadersAfter 83 = .ok (.iload 4, 2) := by decide +kernel
theorem dX6_spreadersAfter_85 : decode cX6_spreadersAfter 85 = .ok (.ireturn, 1) := by decide +kernel
theorem dX6_rumourBySpread_0 : decode cX6_rumourBySpread 0 = .ok (.aload_n 0, 1) := by decide +kernel
theorem dX6_rumourBySpread_1 : decode cX6_rumourBySpread 1 = .ok (.iconst 0, 1) := by decide +kernel
theorem dX6_rumourBySpread_2 : decode cX6_rumourBySpread 2 = .ok (.putfield 47, 3) := by decide +kernel
theorem dX6_rumourBySpread_5 : decode cX6_rumourBySpread 5 = .ok (.iconst 0, 1) := by decide +kernel
theorem dX6_rumourBySpread_6 : decode cX6_rumourBySpread 6 = .ok (.istore_n 2, 1) := by decide +kernel
theorem dX6_rumourBySpread_7 : decode cX6_rumourBySpread 7 = .ok (.iload_n 2, 1) := by decide +kernel
theorem dX6_rumourBySpread_8 : decode cX6_rumourBySpread 8 = .ok (.aload_n 0, 1) := by decide +kernel
theorem dX6_rumourBySpread_9 : decode cX6_rumourBySpread 9 = .ok (.getfield 16, 3) := by decide +kernel
theorem dX6_rumourBySpread_12 : decode cX6_rumourBySpread 12 = .ok (.iconst 1, 1) := by decide +kernel
theorem dX6_rumourBySpread_13 : decode cX6_rumourBySpread 13 = .ok (.iaload, 1) := by decide +kernel
theorem dX6_rumourBySpread_14 : decode cX6_rumourBySpread 14 = .ok (.if_icmp .ge 126, 3) := by decide +kernel
theorem dX6_rumourBySpread_17 : decode cX6_rumourBySpread 17 = .ok (.iconst 0, 1) := by decide +kernel
theorem dX6_rumourBySpread_18 : decode cX6_rumourBySpread 18 = .ok (.istore_n 3, 1) := by decide +kernel
theorem dX6_rumourBySpread_19 : decode cX6_rumourBySpread 19 = .ok (.iconst 0, 1) := by decide +kernel
theorem dX6_rumourBySpread_20 : decode cX6_rumourBySpread 20 = .ok (.istore 4, 2) := by decide +kernel
theorem dX6_rumourBySpread_22 : decode cX6_rumourBySpread 22 = .ok (.iload 4, 2) := by decide +kernel
theorem dX6_rumourBySpread_24 : decode cX6_rumourBySpread 24 = .ok (.aload_n 0, 1) := by decide +kernel
theorem dX6_rumourBySpread_25 : decode cX6_rumourBySpread 25 = .ok (.getfield 16, 3) := by decide +kernel
theorem dX6_rumourBySpread_28 : decode cX6_rumourBySpread 28 = .ok (.iconst 1, 1) := by decide +kernel
theorem dX6_rumourBySpread_29 : decode cX6_rumourBySpread 29 = .ok (.iaload, 1) := by decide +kernel
theorem dX6_rumourBySpread_30 : decode cX6_rumourBySpread 30 = .ok (.if_icmp .ge 97, 3) := by decide +kernel
theorem dX6_rumourBySpread_33 : decode cX6_rumourBySpread 33 = .ok (.aload_n 0, 1) := by decide +kernel
theorem dX6_rumourBySpread_34 : decode cX6_rumourBySpread 34 = .ok (.getfield 16, 3) := by decide +kernel
theorem dX6_rumourBySpread_37 : decode cX6_rumourBySpread 37 = .ok (.iload 4, 2) := by decide +kernel
theorem dX6_rumourBySpread_39 : decode cX6_rumourBySpread 39 = .ok (.iconst 3, 1) := by decide +kernel
theorem dX6_rumourBySpread_40 : decode cX6_rumourBySpread 40 = .ok (.invokestatic 61, 3) := by decide +kernel
theorem dX6_rumourBySpread_43 : decode cX6_rumourBySpread 43 = .ok (.iaload, 1) := by decide +kernel
theorem dX6_rumourBySpread_44 : decode cX6_rumourBySpread 44 = .ok (.invokestatic 85, 3) := by decide +kernel
theorem dX6_rumourBySpread_47 : decode cX6_rumourBySpread 47 = .ok (.aload_n 0, 1) := by decide +kernel
theorem dX6_rumourBySpread_48 : decode cX6_rumourBySpread 48 = .ok (.getfield 16, 3) := by decide +kernel
theorem dX6_rumourBySpread_51 : decode cX6_rumourBySpread 51 = .ok (.iload_n 2, 1) := by decide +kernel
theorem dX6_rumourBySpread_52 : decode cX6_rumourBySpread 52 = .ok (.iconst 3, 1) := by decide +kernel
theorem dX6_rumourBySpread_53 : decode cX6_rumourBySpread 53 = .ok (.invokestatic 61, 3) := by decide +kernel
theorem dX6_rumourBySpread_56 : decode cX6_rumourBySpread 56 = .ok (.iaload, 1) := by decide +kernel
theorem dX6_rumourBySpread_57 : decode cX6_rumourBySpread 57 = .ok (.invokestatic 85, 3) := by decide +kernel
theorem dX6_rumourBySpread_60 : decode cX6_rumourBySpread 60 = .ok (.isub, 1) := by decide +kernel
theorem dX6_rumourBySpread_61 : decode cX6_rumourBySpread 61 = .ok (.istore 5, 2) := by decide +kernel
theorem dX6_rumourBySpread_63 : decode cX6_rumourBySpread 63 = .ok (.iload 5, 2) := by decide +kernel
theorem dX6_rumourBySpread_65 : decode cX6_rumourBySpread 65 = .ok (.ifCond .eq 8, 3) := by decide +kernel
theorem dX6_rumourBySpread_68 : decode cX6_rumourBySpread 68 = .ok (.iload 5, 2) := by decide +kernel
theorem dX6_rumourBySpread_70 : decode cX6_rumourBySpread 70 = .ok (.goto 25, 3) := by decide +kernel
theorem dX6_rumourBySpread_73 : decode cX6_rumourBySpread 73 = .ok (.aload_n 0, 1) := by decide +kernel
theorem dX6_rumourBySpread_74 : decode cX6_rumourBySpread 74 = .ok (.getfield 16, 3) := by decide +kernel
theorem dX6_rumourBySpread_77 : decode cX6_rumourBySpread 77 = .ok (.iload_n 2, 1) := by decide +kernel
theorem dX6_rumourBySpread_78 : decode cX6_rumourBySpread 78 = .ok (.iconst 1, 1) := by decide +kernel
theorem dX6_rumourBySpread_79 : decode cX6_rumourBySpread 79 = .ok (.invokestatic 61, 3) := by decide +kernel
theorem dX6_rumourBySpread_82 : decode cX6_rumourBySpread 82 = .ok (.iaload, 1) := by decide +kernel
theorem dX6_rumourBySpread_83 : decode cX6_rumourBySpread 83 = .ok (.aload_n 0, 1) := by decide +kernel
theorem dX6_rumourBySpread_84 : decode cX6_rumourBySpread 84 = .ok (.getfield 16, 3) := by decide +kernel
theorem dX6_rumourBySpread_87 : decode cX6_rumourBySpread 87 = .ok (.iload 4, 2) := by decide +kernel
theorem dX6_rumourBySpread_89 : decode cX6_rumourBySpread 89 = .ok (.iconst 1, 1) := by decide +kernel
theorem dX6_rumourBySpread_90 : decode cX6_rumourBySpread 90 = .ok (.invokestatic 61, 3) := by decide +kernel
theorem dX6_rumourBySpread_93 : decode cX6_rumourBySpread 93 = .ok (.iaload, 1) := by decide +kernel
theorem dX6_rumourBySpread_94 : decode cX6_rumourBySpread 94 = .ok (.isub, 1) := by decide +kernel
theorem dX6_rumourBySpread_95 : decode cX6_rumourBySpread 95 = .ok (.istore 5, 2) := by decide +kernel
theorem dX6_rumourBySpread_97 : decode cX6_rumourBySpread 97 = .ok (.iload_n 3, 1) := by decide +kernel
theorem dX6_rumourBySpread_98 : decode cX6_rumourBySpread 98 = .ok (.iload 5, 2) := by decide +kernel
theorem dX6_rumourBySpread_100 : decode cX6_rumourBySpread 100 = .ok (.ifCond .gt 14, 3) := by decide +kernel
theorem dX6_rumourBySpread_103 : decode cX6_rumourBySpread 103 = .ok (.iload 5, 2) := by decide +kernel
theorem dX6_rumourBySpread_105 : decode cX6_rumourBySpread 105 = .ok (.ifCond .ne 13, 3) := by decide +kernel
theorem dX6_rumourBySpread_108 : decode cX6_rumourBySpread 108 = .ok (.iload 4, 2) := by decide +kernel
theorem dX6_rumourBySpread_110 : decode cX6_rumourBySpread 110 = .ok (.iload_n 2, 1) := by decide +kernel
theorem dX6_rumourBySpread_111 : decode cX6_rumourBySpread 111 = .ok (.if_icmp .ge 7, 3) := by decide +kernel
theorem dX6_rumourBySpread_114 : decode cX6_rumourBySpread 114 = .ok (.iconst 1, 1) := by decide +kernel
theorem dX6_rumourBySpread_115 : decode cX6_rumourBySpread 115 = .ok (.goto 4, 3) := by decide +kernel
theorem dX6_rumourBySpread_118 : decode cX6_rumourBySpread 118 = .ok (.iconst 0, 1) := by decide +kernel
theorem dX6_rumourBySpread_119 : decode cX6_rumourBySpread 119 = .ok (.iadd, 1) := by decide +kernel
theorem dX6_rumourBySpread_120 : decode cX6_rumourBySpread 120 = .ok (.istore_n 3, 1) := by decide +kernel
theorem dX6_rumourBySpread_121 : decode cX6_rumourBySpread 121 = .ok (.iinc 4 1, 3) := by decide +kernel
theorem dX6_rumourBySpread_124 : decode cX6_rumourBySpread 124 = .ok (.goto (-102), 3) := by decide +kernel
theorem dX6_rumourBySpread_127 : decode cX6_rumourBySpread 127 = .ok (.iload_n 3, 1) := by decide +kernel
theorem dX6_rumourBySpread_128 : decode cX6_rumourBySpread 128 = .ok (.iload_n 1, 1) := by decide +kernel
theorem dX6_rumourBySpread_129 : decode cX6_rumourBySpread 129 = .ok (.if_icmp .ne 5, 3) := by decide +kernel
theorem dX6_rumourBySpread_132 : decode cX6_rumourBySpread 132 = .ok (.iload_n 2, 1) := by decide +kernel
theorem dX6_rumourBySpread_133 : decode cX6_rumourBySpread 133 = .ok (.ireturn, 1) := by decide +kernel
theorem dX6_rumourBySpread_134 : decode cX6_rumourBySpread 134 = .ok (.iinc 2 1, 3) := by decide +kernel
theorem dX6_rumourBySpread_137 : decode cX6_rumourBySpread 137 = .ok (.goto (-130), 3) := by decide +kernel
theorem dX6_rumourBySpread_140 : decode cX6_rumourBySpread 140 = .ok (.aload_n 0, 1) := by decide +kernel
theorem dX6_rumourBySpread_141 : decode cX6_rumourBySpread 141 = .ok (.iconst 1, 1) := by decide +kernel
theorem dX6_rumourBySpread_142 : decode cX6_rumourBySpread 142 = .ok (.invokevirtual 72, 3) := by decide +kernel
theorem dX6_rumourBySpread_145 : decode cX6_rumourBySpread 145 = .ok (.ireturn, 1) := by decide +kernel
theorem dX6_gossip_0 : decode cX6_gossip 0 = .ok (.iconst 0, 1) := by decide +kernel
theorem dX6_gossip_1 : decode cX6_gossip 1 = .ok (.istore_n 2, 1) := by decide +kernel
theorem dX6_gossip_2 : decode cX6_gossip 2 = .ok (.iconst 0, 1) := by decide +kernel
theorem dX6_gossip_3 : decode cX6_gossip 3 = .ok (.istore_n 3, 1) := by decide +kernel
theorem dX6_gossip_4 : decode cX6_gossip 4 = .ok (.iload_n 3, 1) := by decide +kernel
theorem dX6_gossip_5 : decode cX6_gossip 5 = .ok (.aload_n 0, 1) := by decide +kernel
theorem dX6_gossip_6 : decode cX6_gossip 6 = .ok (.getfield 16, 3) := by decide +kernel
theorem dX6_gossip_9 : decode cX6_gossip 9 = .ok (.iconst 1, 1) := by decide +kernel
theorem dX6_gossip_10 : decode cX6_gossip 10 = .ok (.iaload, 1) := by decide +kernel
theorem dX6_gossip_11 : decode cX6_gossip 11 = .ok (.if_icmp .ge 34, 3) := by decide +kernel
theorem dX6_gossip_14 : decode cX6_gossip 14 = .ok (.iload_n 2, 1) := by decide +kernel
theorem dX6_gossip_15 : decode cX6_gossip 15 = .ok (.aload_n 0, 1) := by decide +kernel
theorem dX6_gossip_16 : decode cX6_gossip 16 = .ok (.getfield 16, 3) := by decide +kernel
theorem dX6_gossip_19 : decode cX6_gossip 19 = .ok (.iload_n 3, 1) := by decide +kernel
theorem dX6_gossip_20 : decode cX6_gossip 20 = .ok (.iconst 3, 1) := by decide +kernel
theorem dX6_gossip_21 : decode cX6_gossip 21 = .ok (.invokestatic 61, 3) := by decide +kernel
theorem dX6_gossip_24 : decode cX6_gossip 24 = .ok (.iaload, 1) := by decide +kernel
theorem dX6_gossip_25 : decode cX6_gossip 25 = .ok (.iload_n 1, 1) := by decide +kernel
theorem dX6_gossip_26 : decode cX6_gossip 26 = .ok (.invokestatic 91, 3) := by decide +kernel
theorem dX6_gossip_29 : decode cX6_gossip 29 = .ok (.ifCond .eq 7, 3) := by decide +kernel
theorem dX6_gossip_32 : decode cX6_gossip 32 = .ok (.iconst 1, 1) := by decide +kernel
theorem dX6_gossip_33 : decode cX6_gossip 33 = .ok (.goto 4, 3) := by decide +kernel
theorem dX6_gossip_36 : decode cX6_gossip 36 = .ok (.iconst 0, 1) := by decide +kernel
theorem dX6_gossip_37 : decode cX6_gossip 37 = .ok (.iadd, 1) := by decide +kernel
theorem dX6_gossip_38 : decode cX6_gossip 38 = .ok (.istore_n 2, 1) := by decide +kernel
theorem dX6_gossip_39 : decode cX6_gossip 39 = .ok (.iinc 3 1, 3) := by decide +kernel
theorem dX6_gossip_42 : decode cX6_gossip 42 = .ok (.goto (-38), 3) := by decide +kernel
theorem dX6_gossip_45 : decode cX6_gossip 45 = .ok (.iload_n 2, 1) := by decide +kernel
theorem dX6_gossip_46 : decode cX6_gossip 46 = .ok (.ireturn, 1) := by decide +kernel
theorem dX6_listenerByGossip_0 : decode cX6_listenerByGossip 0 = .ok (.aload_n 0, 1) := by decide +kernel
theorem dX6_listenerByGossip_1 : decode cX6_listenerByGossip 1 = .ok (.iconst 0, 1) := by decide +kernel
theorem dX6_listenerByGossip_2 : decode cX6_listenerByGossip 2 = .ok (.putfield 47, 3) := by decide +kernel
theorem dX6_listenerByGossip_5 : decode cX6_listenerByGossip 5 = .ok (.iconst 0, 1) := by decide +kernel
theorem dX6_listenerByGossip_6 : decode cX6_listenerByGossip 6 = .ok (.istore_n 2, 1) := by decide +kernel
theorem dX6_listenerByGossip_7 : decode cX6_listenerByGossip 7 = .ok (.iload_n 2, 1) := by decide +kernel
theorem dX6_listenerByGossip_8 : decode cX6_listenerByGossip 8 = .ok (.aload_n 0, 1) := by decide +kernel
theorem dX6_listenerByGossip_9 : decode cX6_listenerByGossip 9 = .ok (.getfield 16, 3) := by decide +kernel
theorem dX6_listenerByGossip_12 : decode cX6_listenerByGossip 12 = .ok (.iconst 0, 1) := by decide +kernel
theorem dX6_listenerByGossip_13 : decode cX6_listenerByGossip 13 = .ok (.iaload, 1) := by decide +kernel
theorem dX6_listenerByGossip_14 : decode cX6_listenerByGossip 14 = .ok (.if_icmp .ge 108, 3) := by decide +kernel
theorem dX6_listenerByGossip_17 : decode cX6_listenerByGossip 17 = .ok (.iconst 0, 1) := by decide +kernel
theorem dX6_listenerByGossip_18 : decode cX6_listenerByGossip 18 = .ok (.istore_n 3, 1) := by decide +kernel
theorem dX6_listenerByGossip_19 : decode cX6_listenerByGossip 19 = .ok (.iconst 0, 1) := by decide +kernel
theorem dX6_listenerByGossip_20 : decode cX6_listenerByGossip 20 = .ok (.istore 4, 2) := by decide +kernel
theorem dX6_listenerByGossip_22 : decode cX6_listenerByGossip 22 = .ok (.iload 4, 2) := by decide +kernel
theorem dX6_listenerByGossip_24 : decode cX6_listenerByGossip 24 = .ok (.aload_n 0, 1) := by decide +kernel
theorem dX6_listenerByGossip_25 : decode cX6_listenerByGossip 25 = .ok (.getfield 16, 3) := by decide +kernel
theorem dX6_listenerByGossip_28 : decode cX6_listenerByGossip 28 = .ok (.iconst 0, 1) := by decide +kernel
theorem dX6_listenerByGossip_29 : decode cX6_listenerByGossip 29 = .ok (.iaload, 1) := by decide +kernel
theorem dX6_listenerByGossip_30 : decode cX6_listenerByGossip 30 = .ok (.if_icmp .ge 79, 3) := by decide +kernel
theorem dX6_listenerByGossip_33 : decode cX6_listenerByGossip 33 = .ok (.aload_n 0, 1) := by decide +kernel
theorem dX6_listenerByGossip_34 : decode cX6_listenerByGossip 34 = .ok (.iload 4, 2) := by decide +kernel
theorem dX6_listenerByGossip_36 : decode cX6_listenerByGossip 36 = .ok (.invokevirtual 163, 3) := by decide +kernel
theorem dX6_listenerByGossip_39 : decode cX6_listenerByGossip 39 = .ok (.aload_n 0, 1) := by decide +kernel
theorem dX6_listenerByGossip_40 : decode cX6_listenerByGossip 40 = .ok (.iload_n 2, 1) := by decide +kernel
theorem dX6_listenerByGossip_41 : decode cX6_listenerByGossip 41 = .ok (.invokevirtual 163, 3) := by decide +kernel
theorem dX6_listenerByGossip_44 : decode cX6_listenerByGossip 44 = .ok (.isub, 1) := by decide +kernel
theorem dX6_listenerByGossip_45 : decode cX6_listenerByGossip 45 = .ok (.istore 5, 2) := by decide +kernel
theorem dX6_listenerByGossip_47 : decode cX6_listenerByGossip 47 = .ok (.iload 5, 2) := by decide +kernel
theorem dX6_listenerByGossip_49 : decode cX6_listenerByGossip 49 = .ok (.ifCond .eq 8, 3) := by decide +kernel
theorem dX6_listenerByGossip_52 : decode cX6_listenerByGossip 52 = .ok (.iload 5, 2) := by decide +kernel
theorem dX6_listenerByGossip_54 : decode cX6_listenerByGossip 54 = .ok (.goto 23, 3) := by decide +kernel
theorem dX6_listenerByGossip_57 : decode cX6_listenerByGossip 57 = .ok (.aload_n 0, 1) := by decide +kernel
theorem dX6_listenerByGossip_58 : decode cX6_listenerByGossip 58 = .ok (.getfield 16, 3) := by decide +kernel
theorem dX6_listenerByGossip_61 : decode cX6_listenerByGossip 61 = .ok (.bipush 17, 2) := by decide +kernel
theorem dX6_listenerByGossip_63 : decode cX6_listenerByGossip 63 = .ok (.iload_n 2, 1) := by decide +kernel
theorem dX6_listenerByGossip_64 : decode cX6_listenerByGossip 64 = .ok (.iadd, 1) := by decide +kernel
theorem dX6_listenerByGossip_65 : decode cX6_listenerByGossip 65 = .ok (.iaload, 1) := by decide +kernel
theorem dX6_listenerByGossip_66 : decode cX6_listenerByGossip 66 = .ok (.aload_n 0, 1) := by decide +kernel
theorem dX6_listenerByGossip_67 : decode cX6_listenerByGossip 67 = .ok (.getfield 16, 3) := by decide +kernel
theorem dX6_listenerByGossip_70 : decode cX6_listenerByGossip 70 = .ok (.bipush 17, 2) := by decide +kernel
theorem dX6_listenerByGossip_72 : decode cX6_listenerByGossip 72 = .ok (.iload 4, 2) := by decide +kernel
theorem dX6_listenerByGossip_74 : decode cX6_listenerByGossip 74 = .ok (.iadd, 1) := by decide +kernel
theorem dX6_listenerByGossip_75 : decode cX6_listenerByGossip 75 = .ok (.iaload, 1) := by decide +kernel
theorem dX6_listenerByGossip_76 : decode cX6_listenerByGossip 76 = .ok (.isub, 1) := by decide +kernel
theorem dX6_listenerByGossip_77 : decode cX6_listenerByGossip 77 = .ok (.istore 5, 2) := by decide +kernel
theorem dX6_listenerByGossip_79 : decode cX6_listenerByGossip 79 = .ok (.iload_n 3, 1) := by decide +kernel
theorem dX6_listenerByGossip_80 : decode cX6_listenerByGossip 80 = .ok (.iload 5, 2) := by decide +kernel
theorem dX6_listenerByGossip_82 : decode cX6_listenerByGossip 82 = .ok (.ifCond .gt 14, 3) := by decide +kernel
theorem dX6_listenerByGossip_85 : decode cX6_listenerByGossip 85 = .ok (.iload 5, 2) := by decide +kernel
theorem dX6_listenerByGossip_87 : decode cX6_listenerByGossip 87 = .ok (.ifCond .ne 13, 3) := by decide +kernel
theorem dX6_listenerByGossip_90 : decode cX6_listenerByGossip 90 = .ok (.iload 4, 2) := by decide +kernel
theorem dX6_listenerByGossip_92 : decode cX6_listenerByGossip 92 = .ok (.iload_n 2, 1) := by decide +kernel
theorem dX6_listenerByGossip_93 : decode cX6_listenerByGossip 93 = .ok (.if_icmp .ge 7, 3) := by decide +kernel
theorem dX6_listenerByGossip_96 : decode cX6_listenerByGossip 96 = .ok (.iconst 1, 1) := by decide +kernel
theorem dX6_listenerByGossip_97 : decode cX6_listenerByGossip 97 = .ok (.goto 4, 3) := by decide +kernel
theorem dX6_listenerByGossip_100 : decode cX6_listenerByGossip 100 = .ok (.iconst 0, 1) := by decide +kernel
theorem dX6_listenerByGossip_101 : decode cX6_listenerByGossip 101 = .ok (.iadd, 1) := by decide +kernel
theorem dX6_listenerByGossip_102 : decode cX6_listenerByGossip 102 = .ok (.istore_n 3, 1) := by decide +kernel
theorem dX6_listenerByGossip_103 : decode cX6_listenerByGossip 103 = .ok (.iinc 4 1, 3) := by decide +kernel
theorem dX6_listenerByGossip_106 : decode cX6_listenerByGossip 106 = .ok (.goto (-84), 3) := by decide +kernel
theorem dX6_listenerByGossip_109 : decode cX6_listenerByGossip 109 = .ok (.iload_n 3, 1) := by decide +kernel
theorem dX6_listenerByGossip_110 : decode cX6_listenerByGossip 110 = .ok (.iload_n 1, 1) := by decide +kernel
theorem dX6_listenerByGossip_111 : decode cX6_listenerByGossip 111 = .ok (.if_icmp .ne 5, 3) := by decide +kernel
theorem dX6_listenerByGossip_114 : decode cX6_listenerByGossip 114 = .ok (.iload_n 2, 1) := by decide +kernel
theorem dX6_listenerByGossip_115 : decode cX6_listenerByGossip 115 = .ok (.ireturn, 1) := by decide +kernel
theorem dX6_listenerByGossip_116 : decode cX6_listenerByGossip 116 = .ok (.iinc 2 1, 3) := by decide +kernel
theorem dX6_listenerByGossip_119 : decode cX6_listenerByGossip 119 = .ok (.goto (-112), 3) := by decide +kernel
theorem dX6_listenerByGossip_122 : decode cX6_listenerByGossip 122 = .ok (.aload_n 0, 1) := by decide +kernel
theorem dX6_listenerByGossip_123 : decode cX6_listenerByGossip 123 = .ok (.iconst 1, 1) := by decide +kernel
theorem dX6_listenerByGossip_124 : decode cX6_listenerByGossip 124 = .ok (.invokevirtual 72, 3) := by decide +kernel
theorem dX6_listenerByGossip_127 : decode cX6_listenerByGossip 127 = .ok (.ireturn, 1) := by decide +kernel
theorem dX6_round_0 : decode cX6_round 0 = .ok (.aload_n 0, 1) := by decide +kernel
theorem dX6_round_1 : decode cX6_round 1 = .ok (.iconst 0, 1) := by decide +kernel
theorem dX6_round_2 : decode cX6_round 2 = .ok (.putfield 47, 3) := by decide +kernel
theorem dX6_round_5 : decode cX6_round 5 = .ok (.aload_n 0, 1) := by decide +kernel
theorem dX6_round_6 : decode cX6_round 6 = .ok (.getfield 16, 3) := by decide +kernel
theorem dX6_round_9 : decode cX6_round 9 = .ok (.iconst 2, 1) := by decide +kernel
theorem dX6_round_10 : decode cX6_round 10 = .ok (.iaload, 1) := by decide +kernel
theorem dX6_round_11 : decode cX6_round 11 = .ok (.ireturn, 1) := by decide +kernel
theorem dX6_heardTotal_0 : decode cX6_heardTotal 0 = .ok (.aload_n 0, 1) := by decide +kernel
theorem dX6_heardTotal_1 : decode cX6_heardTotal 1 = .ok (.iconst 0, 1) := by decide +kernel
theorem dX6_heardTotal_2 : decode cX6_heardTotal 2 = .ok (.putfield 47, 3) := by decide +kernel
theorem dX6_heardTotal_5 : decode cX6_heardTotal 5 = .ok (.aload_n 0, 1) := by decide +kernel
theorem dX6_heardTotal_6 : decode cX6_heardTotal 6 = .ok (.getfield 16, 3) := by decide +kernel
theorem dX6_heardTotal_9 : decode cX6_heardTotal 9 = .ok (.iconst 3, 1) := by decide +kernel
theorem dX6_heardTotal_10 : decode cX6_heardTotal 10 = .ok (.iaload, 1) := by decide +kernel
theorem dX6_heardTotal_11 : decode cX6_heardTotal 11 = .ok (.ireturn, 1) := by decide +kernel
theorem dX6_successfulChecks_0 : decode cX6_successfulChecks 0 = .ok (.aload_n 0, 1) := by decide +kernel
theorem dX6_successfulChecks_1 : decode cX6_successfulChecks 1 = .ok (.iconst 0, 1) := by decide +kernel
theorem dX6_successfulChecks_2 : decode cX6_successfulChecks 2 = .ok (.putfield 47, 3) := by decide +kernel
theorem dX6_successfulChecks_5 : decode cX6_successfulChecks 5 = .ok (.aload_n 0, 1) := by decide +kernel
theorem dX6_successfulChecks_6 : decode cX6_successfulChecks 6 = .ok (.getfield 16, 3) := by decide +kernel
theorem dX6_successfulChecks_9 : decode cX6_successfulChecks 9 = .ok (.iconst 4, 1) := by decide +kernel
theorem dX6_successfulChecks_10 : decode cX6_successfulChecks 10 = .ok (.iaload, 1) := by decide +kernel
theorem dX6_successfulChecks_11 : decode cX6_successfulChecks 11 = .ok (.ireturn, 1) := by decide +kernel
theorem dX6_meanDoubt_0 : decode cX6_meanDoubt 0 = .ok (.aload_n 0, 1) := by decide +kernel
theorem dX6_meanDoubt_1 : decode cX6_meanDoubt 1 = .ok (.aload_n 0, 1) := by decide +kernel
theorem dX6_meanDoubt_2 : decode cX6_meanDoubt 2 = .ok (.getfield 16, 3) := by decide +kernel
theorem dX6_meanDoubt_5 : decode cX6_meanDoubt 5 = .ok (.iconst 0, 1) := by decide +kernel
theorem dX6_meanDoubt_6 : decode cX6_meanDoubt 6 = .ok (.iaload, 1) := by decide +kernel
theorem dX6_meanDoubt_7 : decode cX6_meanDoubt 7 = .ok (.ifCond .ne 7, 3) := by decide +kernel
theorem dX6_meanDoubt_10 : decode cX6_meanDoubt 10 = .ok (.iconst 1, 1) := by decide +kernel
theorem dX6_meanDoubt_11 : decode cX6_meanDoubt 11 = .ok (.goto 4, 3) := by decide +kernel
theorem dX6_meanDoubt_14 : decode cX6_meanDoubt 14 = .ok (.iconst 0, 1) := by decide +kernel
theorem dX6_meanDoubt_15 : decode cX6_meanDoubt 15 = .ok (.putfield 47, 3) := by decide +kernel
theorem dX6_meanDoubt_18 : decode cX6_meanDoubt 18 = .ok (.iconst 0, 1) := by decide +kernel
theorem dX6_meanDoubt_19 : decode cX6_meanDoubt 19 = .ok (.istore_n 1, 1) := by decide +kernel
theorem dX6_meanDoubt_20 : decode cX6_meanDoubt 20 = .ok (.iconst 0, 1) := by decide +kernel
theorem dX6_meanDoubt_21 : decode cX6_meanDoubt 21 = .ok (.istore_n 2, 1) := by decide +kernel
theorem dX6_meanDoubt_22 : decode cX6_meanDoubt 22 = .ok (.iload_n 2, 1) := by decide +kernel
theorem dX6_meanDoubt_23 : decode cX6_meanDoubt 23 = .ok (.aload_n 0, 1) := by decide +kernel
theorem dX6_meanDoubt_24 : decode cX6_meanDoubt 24 = .ok (.getfield 16, 3) := by decide +kernel
theorem dX6_meanDoubt_27 : decode cX6_meanDoubt 27 = .ok (.iconst 0, 1) := by decide +kernel
theorem dX6_meanDoubt_28 : decode cX6_meanDoubt 28 = .ok (.iaload, 1) := by decide +kernel
theorem dX6_meanDoubt_29 : decode cX6_meanDoubt 29 = .ok (.if_icmp .ge 21, 3) := by decide +kernel
theorem dX6_meanDoubt_32 : decode cX6_meanDoubt 32 = .ok (.iload_n 1, 1) := by decide +kernel
theorem dX6_meanDoubt_33 : decode cX6_meanDoubt 33 = .ok (.aload_n 0, 1) := by decide +kernel
theorem dX6_meanDoubt_34 : decode cX6_meanDoubt 34 = .ok (.getfield 16, 3) := by decide +kernel
theorem dX6_meanDoubt_37 : decode cX6_meanDoubt 37 = .ok (.bipush 17, 2) := by decide +kernel
theorem dX6_meanDoubt_39 : decode cX6_meanDoubt 39 = .ok (.iload_n 2, 1) := by decide +kernel
theorem dX6_meanDoubt_40 : decode cX6_meanDoubt 40 = .ok (.iadd, 1) := by decide +kernel
theorem dX6_meanDoubt_41 : decode cX6_meanDoubt 41 = .ok (.iaload, 1) := by decide +kernel
theorem dX6_meanDoubt_42 : decode cX6_meanDoubt 42 = .ok (.iadd, 1) := by decide +kernel
theorem dX6_meanDoubt_43 : decode cX6_meanDoubt 43 = .ok (.istore_n 1, 1) := by decide +kernel
theorem dX6_meanDoubt_44 : decode cX6_meanDoubt 44 = .ok (.iinc 2 1, 3) := by decide +kernel
theorem dX6_meanDoubt_47 : decode cX6_meanDoubt 47 = .ok (.goto (-25), 3) := by decide +kernel
theorem dX6_meanDoubt_50 : decode cX6_meanDoubt 50 = .ok (.aload_n 0, 1) := by decide +kernel
theorem dX6_meanDoubt_51 : decode cX6_meanDoubt 51 = .ok (.getfield 47, 3) := by decide +kernel
theorem dX6_meanDoubt_54 : decode cX6_meanDoubt 54 = .ok (.ifCond .ne 16, 3) := by decide +kernel
theorem dX6_meanDoubt_57 : decode cX6_meanDoubt 57 = .ok (.iload_n 1, 1) := by decide +kernel
theorem dX6_meanDoubt_58 : decode cX6_meanDoubt 58 = .ok (.i2d, 1) := by decide +kernel
theorem dX6_meanDoubt_59 : decode cX6_meanDoubt 59 = .ok (.aload_n 0, 1) := by decide +kernel
theorem dX6_meanDoubt_60 : decode cX6_meanDoubt 60 = .ok (.getfield 16, 3) := by decide +kernel
theorem dX6_meanDoubt_63 : decode cX6_meanDoubt 63 = .ok (.iconst 0, 1) := by decide +kernel
theorem dX6_meanDoubt_64 : decode cX6_meanDoubt 64 = .ok (.iaload, 1) := by decide +kernel
theorem dX6_meanDoubt_65 : decode cX6_meanDoubt 65 = .ok (.i2d, 1) := by decide +kernel
theorem dX6_meanDoubt_66 : decode cX6_meanDoubt 66 = .ok (.ddiv, 1) := by decide +kernel
theorem dX6_meanDoubt_67 : decode cX6_meanDoubt 67 = .ok (.goto 4, 3) := by decide +kernel
theorem dX6_meanDoubt_70 : decode cX6_meanDoubt 70 = .ok (.dconst 0, 1) := by decide +kernel
theorem dX6_meanDoubt_71 : decode cX6_meanDoubt 71 = .ok (.dreturn, 1) := by decide +kernel
theorem dX6_gossipShare_0 : decode cX6_gossipShare 0 = .ok (.aload_n 0, 1) := by decide +kernel
theorem dX6_gossipShare_1 : decode cX6_gossipShare 1 = .ok (.aload_n 0, 1) := by decide +kernel
theorem dX6_gossipShare_2 : decode cX6_gossipShare 2 = .ok (.getfield 16, 3) := by decide +kernel
theorem dX6_gossipShare_5 : decode cX6_gossipShare 5 = .ok (.iconst 0, 1) := by decide +kernel
theorem dX6_gossipShare_6 : decode cX6_gossipShare 6 = .ok (.iaload, 1) := by decide +kernel
theorem dX6_gossipShare_7 : decode cX6_gossipShare 7 = .ok (.ifCond .ne 7, 3) := by decide +kernel
theorem dX6_gossipShare_10 : decode cX6_gossipShare 10 = .ok (.iconst 1, 1) := by decide +kernel
theorem dX6_gossipShare_11 : decode cX6_gossipShare 11 = .ok (.goto 4, 3) := by decide +kernel
theorem dX6_gossipShare_14 : decode cX6_gossipShare 14 = .ok (.iconst 0, 1) := by decide +kernel
theorem dX6_gossipShare_15 : decode cX6_gossipShare 15 = .ok (.putfield 47, 3) := by decide +kernel
theorem dX6_gossipShare_18 : decode cX6_gossipShare 18 = .ok (.iconst 0, 1) := by decide +kernel
theorem dX6_gossipShare_19 : decode cX6_gossipShare 19 = .ok (.istore_n 1, 1) := by decide +kernel
theorem dX6_gossipShare_20 : decode cX6_gossipShare 20 = .ok (.iconst 0, 1) := by decide +kernel
theorem dX6_gossipShare_21 : decode cX6_gossipShare 21 = .ok (.istore_n 2, 1) := by decide +kernel
theorem dX6_gossipShare_22 : decode cX6_gossipShare 22 = .ok (.iload_n 2, 1) := by decide +kernel
theorem dX6_gossipShare_23 : decode cX6_gossipShare 23 = .ok (.aload_n 0, 1) := by decide +kernel
theorem dX6_gossipShare_24 : decode cX6_gossipShare 24 = .ok (.getfield 16, 3) := by decide +kernel
theorem dX6_gossipShare_27 : decode cX6_gossipShare 27 = .ok (.iconst 0, 1) := by decide +kernel
theorem dX6_gossipShare_28 : decode cX6_gossipShare 28 = .ok (.iaload, 1) := by decide +kernel
theorem dX6_gossipShare_29 : decode cX6_gossipShare 29 = .ok (.if_icmp .ge 25, 3) := by decide +kernel
theorem dX6_gossipShare_32 : decode cX6_gossipShare 32 = .ok (.iload_n 1, 1) := by decide +kernel
theorem dX6_gossipShare_33 : decode cX6_gossipShare 33 = .ok (.aload_n 0, 1) := by decide +kernel
theorem dX6_gossipShare_34 : decode cX6_gossipShare 34 = .ok (.iload_n 2, 1) := by decide +kernel
theorem dX6_gossipShare_35 : decode cX6_gossipShare 35 = .ok (.invokevirtual 163, 3) := by decide +kernel
theorem dX6_gossipShare_38 : decode cX6_gossipShare 38 = .ok (.ifCond .le 7, 3) := by decide +kernel
theorem dX6_gossipShare_41 : decode cX6_gossipShare 41 = .ok (.iconst 1, 1) := by decide +kernel
theorem dX6_gossipShare_42 : decode cX6_gossipShare 42 = .ok (.goto 4, 3) := by decide +kernel
theorem dX6_gossipShare_45 : decode cX6_gossipShare 45 = .ok (.iconst 0, 1) := by decide +kernel
theorem dX6_gossipShare_46 : decode cX6_gossipShare 46 = .ok (.iadd, 1) := by decide +kernel
theorem dX6_gossipShare_47 : decode cX6_gossipShare 47 = .ok (.istore_n 1, 1) := by decide +kernel
theorem dX6_gossipShare_48 : decode cX6_gossipShare 48 = .ok (.iinc 2 1, 3) := by decide +kernel
theorem dX6_gossipShare_51 : decode cX6_gossipShare 51 = .ok (.goto (-29), 3) := by decide +kernel
theorem dX6_gossipShare_54 : decode cX6_gossipShare 54 = .ok (.aload_n 0, 1) := by decide +kernel
theorem dX6_gossipShare_55 : decode cX6_gossipShare 55 = .ok (.getfield 47, 3) := by decide +kernel
theorem dX6_gossipShare_58 : decode cX6_gossipShare 58 = .ok (.ifCond .ne 16, 3) := by decide +kernel
theorem dX6_gossipShare_61 : decode cX6_gossipShare 61 = .ok (.iload_n 1, 1) := by decide +kernel
theorem dX6_gossipShare_62 : decode cX6_gossipShare 62 = .ok (.i2f, 1) := by decide +kernel
theorem dX6_gossipShare_63 : decode cX6_gossipShare 63 = .ok (.aload_n 0, 1) := by decide +kernel
theorem dX6_gossipShare_64 : decode cX6_gossipShare 64 = .ok (.getfield 16, 3) := by decide +kernel
theorem dX6_gossipShare_67 : decode cX6_gossipShare 67 = .ok (.iconst 0, 1) := by decide +kernel
theorem dX6_gossipShare_68 : decode cX6_gossipShare 68 = .ok (.iaload, 1) := by decide +kernel
theorem dX6_gossipShare_69 : decode cX6_gossipShare 69 = .ok (.i2f, 1) := by decide +kernel
theorem dX6_gossipShare_70 : decode cX6_gossipShare 70 = .ok (.fdiv, 1) := by decide +kernel
theorem dX6_gossipShare_71 : decode cX6_gossipShare 71 = .ok (.goto 4, 3) := by decide +kernel
theorem dX6_gossipShare_74 : decode cX6_gossipShare 74 = .ok (.fconst 0, 1) := by decide +kernel
theorem dX6_gossipShare_75 : decode cX6_gossipShare 75 = .ok (.freturn, 1) := by decide +kernel
theorem dX6_isConsistent_0 : decode cX6_isConsistent 0 = .ok (.aload_n 0, 1) := by decide +kernel
theorem dX6_isConsistent_1 : decode cX6_isConsistent 1 = .ok (.iconst 0, 1) := by decide +kernel
theorem dX6_isConsistent_2 : decode cX6_isConsistent 2 = .ok (.putfield 47, 3) := by decide +kernel
theorem dX6_isConsistent_5 : decode cX6_isConsistent 5 = .ok (.iconst 1, 1) := by decide +kernel
theorem dX6_isConsistent_6 : decode cX6_isConsistent 6 = .ok (.istore_n 1, 1) := by decide +kernel
theorem dX6_isConsistent_7 : decode cX6_isConsistent 7 = .ok (.iconst 0, 1) := by decide +kernel
theorem dX6_isConsistent_8 : decode cX6_isConsistent 8 = .ok (.istore_n 2, 1) := by decide +kernel
theorem dX6_isConsistent_9 : decode cX6_isConsistent 9 = .ok (.iload_n 2, 1) := by decide +kernel
theorem dX6_isConsistent_10 : decode cX6_isConsistent 10 = .ok (.aload_n 0, 1) := by decide +kernel
theorem dX6_isConsistent_11 : decode cX6_isConsistent 11 = .ok (.getfield 16, 3) := by decide +kernel
theorem dX6_isConsistent_14 : decode cX6_isConsistent 14 = .ok (.iconst 1, 1) := by decide +kernel
theorem dX6_isConsistent_15 : decode cX6_isConsistent 15 = .ok (.iaload, 1) := by decide +kernel
theorem dX6_isConsistent_16 : decode cX6_isConsistent 16 = .ok (.if_icmp .ge 41, 3) := by decide +kernel
theorem dX6_isConsistent_19 : decode cX6_isConsistent 19 = .ok (.iload_n 1, 1) := by decide +kernel
theorem dX6_isConsistent_20 : decode cX6_isConsistent 20 = .ok (.aload_n 0, 1) := by decide +kernel
theorem dX6_isConsistent_21 : decode cX6_isConsistent 21 = .ok (.getfield 16, 3) := by decide +kernel
theorem dX6_isConsistent_24 : decode cX6_isConsistent 24 = .ok (.iload_n 2, 1) := by decide +kernel
theorem dX6_isConsistent_25 : decode cX6_isConsistent 25 = .ok (.iconst 3, 1) := by decide +kernel
theorem dX6_isConsistent_26 : decode cX6_isConsistent 26 = .ok (.invokestatic 61, 3) := by decide +kernel
theorem dX6_isConsistent_29 : decode cX6_isConsistent 29 = .ok (.iaload, 1) := by decide +kernel
theorem dX6_isConsistent_30 : decode cX6_isConsistent 30 = .ok (.aload_n 0, 1) := by decide +kernel
theorem dX6_isConsistent_31 : decode cX6_isConsistent 31 = .ok (.getfield 16, 3) := by decide +kernel
theorem dX6_isConsistent_34 : decode cX6_isConsistent 34 = .ok (.iload_n 2, 1) := by decide +kernel
theorem dX6_isConsistent_35 : decode cX6_isConsistent 35 = .ok (.iconst 4, 1) := by decide +kernel
theorem dX6_isConsistent_36 : decode cX6_isConsistent 36 = .ok (.invokestatic 61, 3) := by decide +kernel
theorem dX6_isConsistent_39 : decode cX6_isConsistent 39 = .ok (.iaload, 1) := by decide +kernel
theorem dX6_isConsistent_40 : decode cX6_isConsistent 40 = .ok (.iand, 1) := by decide +kernel
theorem dX6_isConsistent_41 : decode cX6_isConsistent 41 = .ok (.ifCond .ne 7, 3) := by decide +kernel
theorem dX6_isConsistent_44 : decode cX6_isConsistent 44 = .ok (.iconst 1, 1) := by decide +kernel
theorem dX6_isConsistent_45 : decode cX6_isConsistent 45 = .ok (.goto 4, 3) := by decide +kernel
theorem dX6_isConsistent_48 : decode cX6_isConsistent 48 = .ok (.iconst 0, 1) := by decide +kernel
theorem dX6_isConsistent_49 : decode cX6_isConsistent 49 = .ok (.iand, 1) := by decide +kernel
theorem dX6_isConsistent_50 : decode cX6_isConsistent 50 = .ok (.istore_n 1, 1) := by decide +kernel
theorem dX6_isConsistent_51 : decode cX6_isConsistent 51 = .ok (.iinc 2 1, 3) := by decide +kernel
theorem dX6_isConsistent_54 : decode cX6_isConsistent 54 = .ok (.goto (-45), 3) := by decide +kernel
theorem dX6_isConsistent_57 : decode cX6_isConsistent 57 = .ok (.iload_n 1, 1) := by decide +kernel
theorem dX6_isConsistent_58 : decode cX6_isConsistent 58 = .ok (.ireturn, 1) := by decide +kernel
theorem dX6_writes_0 : decode cX6_writes 0 = .ok (.aload_n 0, 1) := by decide +kernel
theorem dX6_writes_1 : decode cX6_writes 1 = .ok (.getfield 35, 3) := by decide +kernel
theorem dX6_writes_4 : decode cX6_writes 4 = .ok (.aload_n 0, 1) := by decide +kernel
theorem dX6_writes_5 : decode cX6_writes 5 = .ok (.getfield 166, 3) := by decide +kernel
theorem dX6_writes_8 : decode cX6_writes 8 = .ok (.iload_n 1, 1) := by decide +kernel
theorem dX6_writes_9 : decode cX6_writes 9 = .ok (.iastore, 1) := by decide +kernel
theorem dX6_writes_10 : decode cX6_writes 10 = .ok (.aload_n 0, 1) := by decide +kernel
theorem dX6_writes_11 : decode cX6_writes 11 = .ok (.dup, 1) := by decide +kernel
theorem dX6_writes_12 : decode cX6_writes 12 = .ok (.getfield 166, 3) := by decide +kernel
theorem dX6_writes_15 : decode cX6_writes 15 = .ok (.iconst 1, 1) := by decide +kernel
theorem dX6_writes_16 : decode cX6_writes 16 = .ok (.iadd, 1) := by decide +kernel
theorem dX6_writes_17 : decode cX6_writes 17 = .ok (.putfield 166, 3) := by decide +kernel
theorem dX6_writes_20 : decode cX6_writes 20 = .ok (.return_, 1) := by decide +kernel
theorem dX6_writesNumber_0 : decode cX6_writesNumber 0 = .ok (.iconst 1, 1) := by decide +kernel
theorem dX6_writesNumber_1 : decode cX6_writesNumber 1 = .ok (.istore_n 2, 1) := by decide +kernel
theorem dX6_writesNumber_2 : decode cX6_writesNumber 2 = .ok (.iload_n 1, 1) := by decide +kernel
theorem dX6_writesNumber_3 : decode cX6_writesNumber 3 = .ok (.iload_n 2, 1) := by decide +kernel
theorem dX6_writesNumber_4 : decode cX6_writesNumber 4 = .ok (.idiv, 1) := by decide +kernel
theorem dX6_writesNumber_5 : decode cX6_writesNumber 5 = .ok (.bipush 10, 2) := by decide +kernel
theorem dX6_writesNumber_7 : decode cX6_writesNumber 7 = .ok (.if_icmp .lt 11, 3) := by decide +kernel
theorem dX6_writesNumber_10 : decode cX6_writesNumber 10 = .ok (.iload_n 2, 1) := by decide +kernel
theorem dX6_writesNumber_11 : decode cX6_writesNumber 11 = .ok (.bipush 10, 2) := by decide +kernel
theorem dX6_writesNumber_13 : decode cX6_writesNumber 13 = .ok (.imul, 1) := by decide +kernel
theorem dX6_writesNumber_14 : decode cX6_writesNumber 14 = .ok (.istore_n 2, 1) := by decide +kernel
theorem dX6_writesNumber_15 : decode cX6_writesNumber 15 = .ok (.goto (-13), 3) := by decide +kernel
theorem dX6_writesNumber_18 : decode cX6_writesNumber 18 = .ok (.iload_n 2, 1) := by decide +kernel
theorem dX6_writesNumber_19 : decode cX6_writesNumber 19 = .ok (.ifCond .le 24, 3) := by decide +kernel
theorem dX6_writesNumber_22 : decode cX6_writesNumber 22 = .ok (.aload_n 0, 1) := by decide +kernel
theorem dX6_writesNumber_23 : decode cX6_writesNumber 23 = .ok (.bipush 48, 2) := by decide +kernel
theorem dX6_writesNumber_25 : decode cX6_writesNumber 25 = .ok (.iload_n 1, 1) := by decide +kernel
theorem dX6_writesNumber_26 : decode cX6_writesNumber 26 = .ok (.iload_n 2, 1) := by decide +kernel
theorem dX6_writesNumber_27 : decode cX6_writesNumber 27 = .ok (.idiv, 1) := by decide +kernel
theorem dX6_writesNumber_28 : decode cX6_writesNumber 28 = .ok (.bipush 10, 2) := by decide +kernel
theorem dX6_writesNumber_30 : decode cX6_writesNumber 30 = .ok (.irem, 1) := by decide +kernel
theorem dX6_writesNumber_31 : decode cX6_writesNumber 31 = .ok (.iadd, 1) := by decide +kernel
theorem dX6_writesNumber_32 : decode cX6_writesNumber 32 = .ok (.invokevirtual 169, 3) := by decide +kernel
theorem dX6_writesNumber_35 : decode cX6_writesNumber 35 = .ok (.iload_n 2, 1) := by decide +kernel
theorem dX6_writesNumber_36 : decode cX6_writesNumber 36 = .ok (.bipush 10, 2) := by decide +kernel
theorem dX6_writesNumber_38 : decode cX6_writesNumber 38 = .ok (.idiv, 1) := by decide +kernel
theorem dX6_writesNumber_39 : decode cX6_writesNumber 39 = .ok (.istore_n 2, 1) := by decide +kernel
theorem dX6_writesNumber_40 : decode cX6_writesNumber 40 = .ok (.goto (-22), 3) := by decide +kernel
theorem dX6_writesNumber_43 : decode cX6_writesNumber 43 = .ok (.return_, 1) := by decide +kernel
theorem dX6_renderRumour_0 : decode cX6_renderRumour 0 = .ok (.aload_n 0, 1) := by decide +kernel
theorem dX6_renderRumour_1 : decode cX6_renderRumour 1 = .ok (.aload_n 0, 1) := by decide +kernel
theorem dX6_renderRumour_2 : decode cX6_renderRumour 2 = .ok (.iload_n 1, 1) := by decide +kernel
theorem dX6_renderRumour_3 : decode cX6_renderRumour 3 = .ok (.invokevirtual 115, 3) := by decide +kernel
theorem dX6_renderRumour_6 : decode cX6_renderRumour 6 = .ok (.ifCond .eq 7, 3) := by decide +kernel
theorem dX6_renderRumour_9 : decode cX6_renderRumour 9 = .ok (.iconst 0, 1) := by decide +kernel
theorem dX6_renderRumour_10 : decode cX6_renderRumour 10 = .ok (.goto 4, 3) := by decide +kernel
theorem dX6_renderRumour_13 : decode cX6_renderRumour 13 = .ok (.iconst 1, 1) := by decide +kernel
theorem dX6_renderRumour_14 : decode cX6_renderRumour 14 = .ok (.putfield 47, 3) := by decide +kernel
theorem dX6_renderRumour_17 : decode cX6_renderRumour 17 = .ok (.aload_n 0, 1) := by decide +kernel
theorem dX6_renderRumour_18 : decode cX6_renderRumour 18 = .ok (.getfield 47, 3) := by decide +kernel
theorem dX6_renderRumour_21 : decode cX6_renderRumour 21 = .ok (.ifCond .eq 5, 3) := by decide +kernel
theorem dX6_renderRumour_24 : decode cX6_renderRumour 24 = .ok (.iconst 0, 1) := by decide +kernel
theorem dX6_renderRumour_25 : decode cX6_renderRumour 25 = .ok (.ireturn, 1) := by decide +kernel
theorem dX6_renderRumour_26 : decode cX6_renderRumour 26 = .ok (.aload_n 0, 1) := by decide +kernel
theorem dX6_renderRumour_27 : decode cX6_renderRumour 27 = .ok (.iconst 0, 1) := by decide +kernel
theorem dX6_renderRumour_28 : decode cX6_renderRumour 28 = .ok (.putfield 166, 3) := by decide +kernel
theorem dX6_renderRumour_31 : decode cX6_renderRumour 31 = .ok (.aload_n 0, 1) := by decide +kernel
theorem dX6_renderRumour_32 : decode cX6_renderRumour 32 = .ok (.bipush 114, 2) := by decide +kernel
theorem dX6_renderRumour_34 : decode cX6_renderRumour 34 = .ok (.invokevirtual 169, 3) := by decide +kernel
theorem dX6_renderRumour_37 : decode cX6_renderRumour 37 = .ok (.aload_n 0, 1) := by decide +kernel
theorem dX6_renderRumour_38 : decode cX6_renderRumour 38 = .ok (.iload_n 1, 1) := by decide +kernel
theorem dX6_renderRumour_39 : decode cX6_renderRumour 39 = .ok (.invokevirtual 173, 3) := by decide +kernel
theorem dX6_renderRumour_42 : decode cX6_renderRumour 42 = .ok (.aload_n 0, 1) := by decide +kernel
theorem dX6_renderRumour_43 : decode cX6_renderRumour 43 = .ok (.bipush 58, 2) := by decide +kernel
theorem dX6_renderRumour_45 : decode cX6_renderRumour 45 = .ok (.invokevirtual 169, 3) := by decide +kernel
theorem dX6_renderRumour_48 : decode cX6_renderRumour 48 = .ok (.aload_n 0, 1) := by decide +kernel
theorem dX6_renderRumour_49 : decode cX6_renderRumour 49 = .ok (.aload_n 0, 1) := by decide +kernel
theorem dX6_renderRumour_50 : decode cX6_renderRumour 50 = .ok (.getfield 16, 3) := by decide +kernel
theorem dX6_renderRumour_53 : decode cX6_renderRumour 53 = .ok (.iload_n 1, 1) := by decide +kernel
theorem dX6_renderRumour_54 : decode cX6_renderRumour 54 = .ok (.iconst 0, 1) := by decide +kernel
theorem dX6_renderRumour_55 : decode cX6_renderRumour 55 = .ok (.invokestatic 61, 3) := by decide +kernel
theorem dX6_renderRumour_58 : decode cX6_renderRumour 58 = .ok (.iaload, 1) := by decide +kernel
theorem dX6_renderRumour_59 : decode cX6_renderRumour 59 = .ok (.invokevirtual 173, 3) := by decide +kernel
theorem dX6_renderRumour_62 : decode cX6_renderRumour 62 = .ok (.aload_n 0, 1) := by decide +kernel
theorem dX6_renderRumour_63 : decode cX6_renderRumour 63 = .ok (.getfield 16, 3) := by decide +kernel
theorem dX6_renderRumour_66 : decode cX6_renderRumour 66 = .ok (.iload_n 1, 1) := by decide +kernel
theorem dX6_renderRumour_67 : decode cX6_renderRumour 67 = .ok (.iconst 1, 1) := by decide +kernel
theorem dX6_renderRumour_68 : decode cX6_renderRumour 68 = .ok (.invokestatic 61, 3) := by decide +kernel
theorem dX6_renderRumour_71 : decode cX6_renderRumour 71 = .ok (.iaload, 1) := by decide +kernel
theorem dX6_renderRumour_72 : decode cX6_renderRumour 72 = .ok (.iconst 1, 1) := by decide +kernel
theorem dX6_renderRumour_73 : decode cX6_renderRumour 73 = .ok (.if_icmp .ne 9, 3) := by decide +kernel
theorem dX6_renderRumour_76 : decode cX6_renderRumour 76 = .ok (.aload_n 0, 1) := by decide +kernel
theorem dX6_renderRumour_77 : decode cX6_renderRumour 77 = .ok (.bipush 120, 2) := by decide +kernel
theorem dX6_renderRumour_79 : decode cX6_renderRumour 79 = .ok (.invokevirtual 169, 3) := by decide +kernel
theorem dX6_renderRumour_82 : decode cX6_renderRumour 82 = .ok (.iconst 0, 1) := by decide +kernel
theorem dX6_renderRumour_83 : decode cX6_renderRumour 83 = .ok (.istore_n 2, 1) := by decide +kernel
theorem dX6_renderRumour_84 : decode cX6_renderRumour 84 = .ok (.iload_n 2, 1) := by decide +kernel
theorem dX6_renderRumour_85 : decode cX6_renderRumour 85 = .ok (.aload_n 0, 1) := by decide +kernel
theorem dX6_renderRumour_86 : decode cX6_renderRumour 86 = .ok (.getfield 16, 3) := by decide +kernel
theorem dX6_renderRumour_89 : decode cX6_renderRumour 89 = .ok (.iconst 0, 1) := by decide +kernel
theorem dX6_renderRumour_90 : decode cX6_renderRumour 90 = .ok (.iaload, 1) := by decide +kernel
theorem dX6_renderRumour_91 : decode cX6_renderRumour 91 = .ok (.if_icmp .ge 59, 3) := by decide +kernel
theorem dX6_renderRumour_94 : decode cX6_renderRumour 94 = .ok (.aload_n 0, 1) := by decide +kernel
theorem dX6_renderRumour_95 : decode cX6_renderRumour 95 = .ok (.aload_n 0, 1) := by decide +kernel
theorem dX6_renderRumour_96 : decode cX6_renderRumour 96 = .ok (.getfield 16, 3) := by decide +kernel
theorem dX6_renderRumour_99 : decode cX6_renderRumour 99 = .ok (.iload_n 1, 1) := by decide +kernel
theorem dX6_renderRumour_100 : decode cX6_renderRumour 100 = .ok (.iconst 3, 1) := by decide +kernel
theorem dX6_renderRumour_101 : decode cX6_renderRumour 101 = .ok (.invokestatic 61, 3) := by decide +kernel
theorem dX6_renderRumour_104 : decode cX6_renderRumour 104 = .ok (.iaload, 1) := by decide +kernel
theorem dX6_renderRumour_105 : decode cX6_renderRumour 105 = .ok (.iload_n 2, 1) := by decide +kernel
theorem dX6_renderRumour_106 : decode cX6_renderRumour 106 = .ok (.invokestatic 91, 3) := by decide +kernel
theorem dX6_renderRumour_109 : decode cX6_renderRumour 109 = .ok (.ifCond .eq 8, 3) := by decide +kernel
theorem dX6_renderRumour_112 : decode cX6_renderRumour 112 = .ok (.bipush 43, 2) := by decide +kernel
theorem dX6_renderRumour_114 : decode cX6_renderRumour 114 = .ok (.goto 27, 3) := by decide +kernel
theorem dX6_renderRumour_117 : decode cX6_renderRumour 117 = .ok (.aload_n 0, 1) := by decide +kernel
theorem dX6_renderRumour_118 : decode cX6_renderRumour 118 = .ok (.getfield 16, 3) := by decide +kernel
theorem dX6_renderRumour_121 : decode cX6_renderRumour 121 = .ok (.iload_n 1, 1) := by decide +kernel
theorem dX6_renderRumour_122 : decode cX6_renderRumour 122 = .ok (.iconst 4, 1) := by decide +kernel
theorem dX6_renderRumour_123 : decode cX6_renderRumour 123 = .ok (.invokestatic 61, 3) := by decide +kernel
theorem dX6_renderRumour_126 : decode cX6_renderRumour 126 = .ok (.iaload, 1) := by decide +kernel
theorem dX6_renderRumour_127 : decode cX6_renderRumour 127 = .ok (.iload_n 2, 1) := by decide +kernel
theorem dX6_renderRumour_128 : decode cX6_renderRumour 128 = .ok (.invokestatic 91, 3) := by decide +kernel
theorem dX6_renderRumour_131 : decode cX6_renderRumour 131 = .ok (.ifCond .eq 8, 3) := by decide +kernel
theorem dX6_renderRumour_134 : decode cX6_renderRumour 134 = .ok (.bipush 45, 2) := by decide +kernel
theorem dX6_renderRumour_136 : decode cX6_renderRumour 136 = .ok (.goto 5, 3) := by decide +kernel
theorem dX6_renderRumour_139 : decode cX6_renderRumour 139 = .ok (.bipush 46, 2) := by decide +kernel
theorem dX6_renderRumour_141 : decode cX6_renderRumour 141 = .ok (.invokevirtual 169, 3) := by decide +kernel
theorem dX6_renderRumour_144 : decode cX6_renderRumour 144 = .ok (.iinc 2 1, 3) := by decide +kernel
theorem dX6_renderRumour_147 : decode cX6_renderRumour 147 = .ok (.goto (-63), 3) := by decide +kernel
theorem dX6_renderRumour_150 : decode cX6_renderRumour 150 = .ok (.aload_n 0, 1) := by decide +kernel
theorem dX6_renderRumour_151 : decode cX6_renderRumour 151 = .ok (.getfield 166, 3) := by decide +kernel
theorem dX6_renderRumour_154 : decode cX6_renderRumour 154 = .ok (.ireturn, 1) := by decide +kernel
theorem dX6_renderHive_0 : decode cX6_renderHive 0 = .ok (.aload_n 0, 1) := by decide +kernel
theorem dX6_renderHive_1 : decode cX6_renderHive 1 = .ok (.iload_n 1, 1) := by decide +kernel
theorem dX6_renderHive_2 : decode cX6_renderHive 2 = .ok (.invokestatic 65, 3) := by decide +kernel
theorem dX6_renderHive_5 : decode cX6_renderHive 5 = .ok (.ifCond .eq 7, 3) := by decide +kernel
theorem dX6_renderHive_8 : decode cX6_renderHive 8 = .ok (.iconst 0, 1) := by decide +kernel
theorem dX6_renderHive_9 : decode cX6_renderHive 9 = .ok (.goto 4, 3) := by decide +kernel
theorem dX6_renderHive_12 : decode cX6_renderHive 12 = .ok (.iconst 1, 1) := by decide +kernel
theorem dX6_renderHive_13 : decode cX6_renderHive 13 = .ok (.putfield 47, 3) := by decide +kernel
theorem dX6_renderHive_16 : decode cX6_renderHive 16 = .ok (.aload_n 0, 1) := by decide +kernel
theorem dX6_renderHive_17 : decode cX6_renderHive 17 = .ok (.getfield 47, 3) := by decide +kernel
theorem dX6_renderHive_20 : decode cX6_renderHive 20 = .ok (.ifCond .eq 5, 3) := by decide +kernel
theorem dX6_renderHive_23 : decode cX6_renderHive 23 = .ok (.iconst 0, 1) := by decide +kernel
theorem dX6_renderHive_24 : decode cX6_renderHive 24 = .ok (.ireturn, 1) := by decide +kernel
theorem dX6_renderHive_25 : decode cX6_renderHive 25 = .ok (.aload_n 0, 1) := by decide +kernel
theorem dX6_renderHive_26 : decode cX6_renderHive 26 = .ok (.iconst 0, 1) := by decide +kernel
theorem dX6_renderHive_27 : decode cX6_renderHive 27 = .ok (.putfield 166, 3) := by decide +kernel
theorem dX6_renderHive_30 : decode cX6_renderHive 30 = .ok (.iconst 0, 1) := by decide +kernel
theorem dX6_renderHive_31 : decode cX6_renderHive 31 = .ok (.istore_n 2, 1) := by decide +kernel
theorem dX6_renderHive_32 : decode cX6_renderHive 32 = .ok (.iload_n 2, 1) := by decide +kernel
theorem dX6_renderHive_33 : decode cX6_renderHive 33 = .ok (.aload_n 0, 1) := by decide +kernel
theorem dX6_renderHive_34 : decode cX6_renderHive 34 = .ok (.getfield 16, 3) := by decide +kernel
theorem dX6_renderHive_37 : decode cX6_renderHive 37 = .ok (.iconst 0, 1) := by decide +kernel
theorem dX6_renderHive_38 : decode cX6_renderHive 38 = .ok (.iaload, 1) := by decide +kernel
theorem dX6_renderHive_39 : decode cX6_renderHive 39 = .ok (.if_icmp .ge 42, 3) := by decide +kernel
theorem dX6_renderHive_42 : decode cX6_renderHive 42 = .ok (.aload_n 0, 1) := by decide +kernel
theorem dX6_renderHive_43 : decode cX6_renderHive 43 = .ok (.getfield 16, 3) := by decide +kernel
theorem dX6_renderHive_46 : decode cX6_renderHive 46 = .ok (.iconst 5, 1) := by decide +kernel
theorem dX6_renderHive_47 : decode cX6_renderHive 47 = .ok (.iload_n 2, 1) := by decide +kernel
theorem dX6_renderHive_48 : decode cX6_renderHive 48 = .ok (.iadd, 1) := by decide +kernel
theorem dX6_renderHive_49 : decode cX6_renderHive 49 = .ok (.iaload, 1) := by decide +kernel
theorem dX6_renderHive_50 : decode cX6_renderHive 50 = .ok (.iload_n 1, 1) := by decide +kernel
theorem dX6_renderHive_51 : decode cX6_renderHive 51 = .ok (.if_icmp .eq 6, 3) := by decide +kernel
theorem dX6_renderHive_54 : decode cX6_renderHive 54 = .ok (.goto 21, 3) := by decide +kernel
theorem dX6_renderHive_57 : decode cX6_renderHive 57 = .ok (.aload_n 0, 1) := by decide +kernel
theorem dX6_renderHive_58 : decode cX6_renderHive 58 = .ok (.getfield 166, 3) := by decide +kernel
theorem dX6_renderHive_61 : decode cX6_renderHive 61 = .ok (.ifCond .le 9, 3) := by decide +kernel
theorem dX6_renderHive_64 : decode cX6_renderHive 64 = .ok (.aload_n 0, 1) := by decide +kernel
theorem dX6_renderHive_65 : decode cX6_renderHive 65 = .ok (.bipush 44, 2) := by decide +kernel
theorem dX6_renderHive_67 : decode cX6_renderHive 67 = .ok (.invokevirtual 169, 3) := by decide +kernel
theorem dX6_renderHive_70 : decode cX6_renderHive 70 = .ok (.aload_n 0, 1) := by decide +kernel
theorem dX6_renderHive_71 : decode cX6_renderHive 71 = .ok (.iload_n 2, 1) := by decide +kernel
theorem dX6_renderHive_72 : decode cX6_renderHive 72 = .ok (.invokevirtual 173, 3) := by decide +kernel
theorem dX6_renderHive_75 : decode cX6_renderHive 75 = .ok (.iinc 2 1, 3) := by decide +kernel
theorem dX6_renderHive_78 : decode cX6_renderHive 78 = .ok (.goto (-46), 3) := by decide +kernel
theorem dX6_renderHive_81 : decode cX6_renderHive 81 = .ok (.aload_n 0, 1) := by decide +kernel
theorem dX6_renderHive_82 : decode cX6_renderHive 82 = .ok (.getfield 166, 3) := by decide +kernel
theorem dX6_renderHive_85 : decode cX6_renderHive 85 = .ok (.ireturn, 1) := by decide +kernel
theorem dX6_outputAt_0 : decode cX6_outputAt 0 = .ok (.aload_n 0, 1) := by decide +kernel
theorem dX6_outputAt_1 : decode cX6_outputAt 1 = .ok (.iload_n 1, 1) := by decide +kernel
theorem dX6_outputAt_2 : decode cX6_outputAt 2 = .ok (.iconst 0, 1) := by decide +kernel
theorem dX6_outputAt_3 : decode cX6_outputAt 3 = .ok (.aload_n 0, 1) := by decide +kernel
theorem dX6_outputAt_4 : decode cX6_outputAt 4 = .ok (.getfield 166, 3) := by decide +kernel
theorem dX6_outputAt_7 : decode cX6_outputAt 7 = .ok (.iconst 1, 1) := by decide +kernel
theorem dX6_outputAt_8 : decode cX6_outputAt 8 = .ok (.isub, 1) := by decide +kernel
theorem dX6_outputAt_9 : decode cX6_outputAt 9 = .ok (.invokestatic 57, 3) := by decide +kernel
theorem dX6_outputAt_12 : decode cX6_outputAt 12 = .ok (.ifCond .eq 7, 3) := by decide +kernel
theorem dX6_outputAt_15 : decode cX6_outputAt 15 = .ok (.iconst 0, 1) := by decide +kernel
theorem dX6_outputAt_16 : decode cX6_outputAt 16 = .ok (.goto 4, 3) := by decide +kernel
theorem dX6_outputAt_19 : decode cX6_outputAt 19 = .ok (.iconst 1, 1) := by decide +kernel
theorem dX6_outputAt_20 : decode cX6_outputAt 20 = .ok (.putfield 47, 3) := by decide +kernel
theorem dX6_outputAt_23 : decode cX6_outputAt 23 = .ok (.aload_n 0, 1) := by decide +kernel
theorem dX6_outputAt_24 : decode cX6_outputAt 24 = .ok (.getfield 47, 3) := by decide +kernel
theorem dX6_outputAt_27 : decode cX6_outputAt 27 = .ok (.ifCond .ne 13, 3) := by decide +kernel
theorem dX6_outputAt_30 : decode cX6_outputAt 30 = .ok (.aload_n 0, 1) := by decide +kernel
theorem dX6_outputAt_31 : decode cX6_outputAt 31 = .ok (.getfield 35, 3) := by decide +kernel
theorem dX6_outputAt_34 : decode cX6_outputAt 34 = .ok (.iload_n 1, 1) := by decide +kernel
theorem dX6_outputAt_35 : decode cX6_outputAt 35 = .ok (.iaload, 1) := by decide +kernel
theorem dX6_outputAt_36 : decode cX6_outputAt 36 = .ok (.i2c, 1) := by decide +kernel
theorem dX6_outputAt_37 : decode cX6_outputAt 37 = .ok (.goto 5, 3) := by decide +kernel
theorem dX6_outputAt_40 : decode cX6_outputAt 40 = .ok (.bipush 97, 2) := by decide +kernel
theorem dX6_outputAt_42 : decode cX6_outputAt 42 = .ok (.ireturn, 1) := by decide +kernel
theorem dX6_type_0 : decode cX6_type 0 = .ok (.aload_n 0, 1) := by decide +kernel
theorem dX6_type_1 : decode cX6_type 1 = .ok (.iload_n 1, 1) := by decide +kernel
theorem dX6_type_2 : decode cX6_type 2 = .ok (.bipush 32, 2) := by decide +kernel
theorem dX6_type_4 : decode cX6_type 4 = .ok (.bipush 126, 2) := by decide +kernel
theorem dX6_type_6 : decode cX6_type 6 = .ok (.invokestatic 57, 3) := by decide +kernel
theorem dX6_type_9 : decode cX6_type 9 = .ok (.ifCond .ne 7, 3) := by decide +kernel
theorem dX6_type_12 : decode cX6_type 12 = .ok (.iconst 1, 1) := by decide +kernel
theorem dX6_type_13 : decode cX6_type 13 = .ok (.goto 17, 3) := by decide +kernel
theorem dX6_type_16 : decode cX6_type 16 = .ok (.aload_n 0, 1) := by decide +kernel
theorem dX6_type_17 : decode cX6_type 17 = .ok (.getfield 176, 3) := by decide +kernel
theorem dX6_type_20 : decode cX6_type 20 = .ok (.bipush 60, 2) := by decide +kernel
theorem dX6_type_22 : decode cX6_type 22 = .ok (.if_icmp .ne 7, 3) := by decide +kernel
theorem dX6_type_25 : decode cX6_type 25 = .ok (.iconst 2, 1) := by decide +kernel
theorem dX6_type_26 : decode cX6_type 26 = .ok (.goto 4, 3) := by decide +kernel
theorem dX6_type_29 : decode cX6_type 29 = .ok (.iconst 0, 1) := by decide +kernel
theorem dX6_type_30 : decode cX6_type 30 = .ok (.putfield 47, 3) := by decide +kernel
theorem dX6_type_33 : decode cX6_type 33 = .ok (.aload_n 0, 1) := by decide +kernel
theorem dX6_type_34 : decode cX6_type 34 = .ok (.getfield 47, 3) := by decide +kernel
theorem dX6_type_37 : decode cX6_type 37 = .ok (.ifCond .eq 5, 3) := by decide +kernel
theorem dX6_type_40 : decode cX6_type 40 = .ok (.iconst 0, 1) := by decide +kernel
theorem dX6_type_41 : decode cX6_type 41 = .ok (.ireturn, 1) := by decide +kernel
theorem dX6_type_42 : decode cX6_type 42 = .ok (.aload_n 0, 1) := by decide +kernel
theorem dX6_type_43 : decode cX6_type 43 = .ok (.getfield 32, 3) := by decide +kernel
theorem dX6_type_46 : decode cX6_type 46 = .ok (.aload_n 0, 1) := by decide +kernel
theorem dX6_type_47 : decode cX6_type 47 = .ok (.getfield 176, 3) := by decide +kernel
theorem dX6_type_50 : decode cX6_type 50 = .ok (.iload_n 1, 1) := by decide +kernel
theorem dX6_type_51 : decode cX6_type 51 = .ok (.iastore, 1) := by decide +kernel
theorem dX6_type_52 : decode cX6_type 52 = .ok (.aload_n 0, 1) := by decide +kernel
theorem dX6_type_53 : decode cX6_type 53 = .ok (.dup, 1) := by decide +kernel
theorem dX6_type_54 : decode cX6_type 54 = .ok (.getfield 176, 3) := by decide +kernel
theorem dX6_type_57 : decode cX6_type 57 = .ok (.iconst 1, 1) := by decide +kernel
theorem dX6_type_58 : decode cX6_type 58 = .ok (.iadd, 1) := by decide +kernel
theorem dX6_type_59 : decode cX6_type 59 = .ok (.putfield 176, 3) := by decide +kernel
theorem dX6_type_62 : decode cX6_type 62 = .ok (.aload_n 0, 1) := by decide +kernel
theorem dX6_type_63 : decode cX6_type 63 = .ok (.getfield 176, 3) := by decide +kernel
theorem dX6_type_66 : decode cX6_type 66 = .ok (.ireturn, 1) := by decide +kernel
theorem dX6_sign_0 : decode cX6_sign 0 = .ok (.aload_n 0, 1) := by decide +kernel
theorem dX6_sign_1 : decode cX6_sign 1 = .ok (.getfield 179, 3) := by decide +kernel
theorem dX6_sign_4 : decode cX6_sign 4 = .ok (.aload_n 0, 1) := by decide +kernel
theorem dX6_sign_5 : decode cX6_sign 5 = .ok (.getfield 182, 3) := by decide +kernel
theorem dX6_sign_8 : decode cX6_sign 8 = .ok (.if_icmp .ge 15, 3) := by decide +kernel
theorem dX6_sign_11 : decode cX6_sign 11 = .ok (.aload_n 0, 1) := by decide +kernel
theorem dX6_sign_12 : decode cX6_sign 12 = .ok (.getfield 32, 3) := by decide +kernel
theorem dX6_sign_15 : decode cX6_sign 15 = .ok (.aload_n 0, 1) := by decide +kernel
theorem dX6_sign_16 : decode cX6_sign 16 = .ok (.getfield 179, 3) := by decide +kernel
theorem dX6_sign_19 : decode cX6_sign 19 = .ok (.iaload, 1) := by decide +kernel
theorem dX6_sign_20 : decode cX6_sign 20 = .ok (.goto 4, 3) := by decide +kernel
theorem dX6_sign_23 : decode cX6_sign 23 = .ok (.iconst (-1), 1) := by decide +kernel
theorem dX6_sign_24 : decode cX6_sign 24 = .ok (.ireturn, 1) := by decide +kernel
theorem dX6_mark_0 : decode cX6_mark 0 = .ok (.aload_n 0, 1) := by decide +kernel
theorem dX6_mark_1 : decode cX6_mark 1 = .ok (.getfield 185, 3) := by decide +kernel
theorem dX6_mark_4 : decode cX6_mark 4 = .ok (.ifCond .eq 4, 3) := by decide +kernel
theorem dX6_mark_7 : decode cX6_mark 7 = .ok (.return_, 1) := by decide +kernel
theorem dX6_mark_8 : decode cX6_mark 8 = .ok (.aload_n 0, 1) := by decide +kernel
theorem dX6_mark_9 : decode cX6_mark 9 = .ok (.aload_n 0, 1) := by decide +kernel
theorem dX6_mark_10 : decode cX6_mark 10 = .ok (.invokevirtual 189, 3) := by decide +kernel
theorem dX6_mark_13 : decode cX6_mark 13 = .ok (.iload_n 1, 1) := by decide +kernel
theorem dX6_mark_14 : decode cX6_mark 14 = .ok (.if_icmp .eq 7, 3) := by decide +kernel
theorem dX6_mark_17 : decode cX6_mark 17 = .ok (.iconst 1, 1) := by decide +kernel
theorem dX6_mark_18 : decode cX6_mark 18 = .ok (.goto 4, 3) := by decide +kernel
theorem dX6_mark_21 : decode cX6_mark 21 = .ok (.iconst 0, 1) := by decide +kernel
theorem dX6_mark_22 : decode cX6_mark 22 = .ok (.putfield 185, 3) := by decide +kernel
theorem dX6_mark_25 : decode cX6_mark 25 = .ok (.aload_n 0, 1) := by decide +kernel
theorem dX6_mark_26 : decode cX6_mark 26 = .ok (.dup, 1) := by decide +kernel
theorem dX6_mark_27 : decode cX6_mark 27 = .ok (.getfield 179, 3) := by decide +kernel
theorem dX6_mark_30 : decode cX6_mark 30 = .ok (.aload_n 0, 1) := by decide +kernel
theorem dX6_mark_31 : decode cX6_mark 31 = .ok (.getfield 185, 3) := by decide +kernel
theorem dX6_mark_34 : decode cX6_mark 34 = .ok (.ifCond .eq 7, 3) := by decide +kernel
theorem dX6_mark_37 : decode cX6_mark 37 = .ok (.iconst 0, 1) := by decide +kernel
theorem dX6_mark_38 : decode cX6_mark 38 = .ok (.goto 4, 3) := by decide +kernel
theorem dX6_mark_41 : decode cX6_mark 41 = .ok (.iconst 1, 1) := by decide +kernel
theorem dX6_mark_42 : decode cX6_mark 42 = .ok (.iadd, 1) := by decide +kernel
theorem dX6_mark_43 : decode cX6_mark 43 = .ok (.putfield 179, 3) := by decide +kernel
theorem dX6_mark_46 : decode cX6_mark 46 = .ok (.return_, 1) := by decide +kernel
theorem dX6_digits_0 : decode cX6_digits 0 = .ok (.iconst 0, 1) := by decide +kernel
theorem dX6_digits_1 : decode cX6_digits 1 = .ok (.istore_n 2, 1) := by decide +kernel
theorem dX6_digits_2 : decode cX6_digits 2 = .ok (.iconst 0, 1) := by decide +kernel
theorem dX6_digits_3 : decode cX6_digits 3 = .ok (.istore_n 3, 1) := by decide +kernel
theorem dX6_digits_4 : decode cX6_digits 4 = .ok (.aload_n 0, 1) := by decide +kernel
theorem dX6_digits_5 : decode cX6_digits 5 = .ok (.getfield 185, 3) := by decide +kernel
theorem dX6_digits_8 : decode cX6_digits 8 = .ok (.ifCond .ne 51, 3) := by decide +kernel
theorem dX6_digits_11 : decode cX6_digits 11 = .ok (.iload_n 3, 1) := by decide +kernel
theorem dX6_digits_12 : decode cX6_digits 12 = .ok (.iload_n 1, 1) := by decide +kernel
theorem dX6_digits_13 : decode cX6_digits 13 = .ok (.if_icmp .ge 46, 3) := by decide +kernel
theorem dX6_digits_16 : decode cX6_digits 16 = .ok (.aload_n 0, 1) := by decide +kernel
theorem dX6_digits_17 : decode cX6_digits 17 = .ok (.invokevirtual 189, 3) := by decide +kernel
theorem dX6_digits_20 : decode cX6_digits 20 = .ok (.bipush 48, 2) := by decide +kernel
theorem dX6_digits_22 : decode cX6_digits 22 = .ok (.bipush 57, 2) := by decide +kernel
theorem dX6_digits_24 : decode cX6_digits 24 = .ok (.invokestatic 57, 3) := by decide +kernel
theorem dX6_digits_27 : decode cX6_digits 27 = .ok (.ifCond .eq 32, 3) := by decide +kernel
theorem dX6_digits_30 : decode cX6_digits 30 = .ok (.bipush 10, 2) := by decide +kernel
theorem dX6_digits_32 : decode cX6_digits 32 = .ok (.iload_n 2, 1) := by decide +kernel
theorem dX6_digits_33 : decode cX6_digits 33 = .ok (.imul, 1) := by decide +kernel
theorem dX6_digits_34 : decode cX6_digits 34 = .ok (.aload_n 0, 1) := by decide +kernel
theorem dX6_digits_35 : decode cX6_digits 35 = .ok (.invokevirtual 189, 3) := by decide +kernel
theorem dX6_digits_38 : decode cX6_digits 38 = .ok (.iadd, 1) := by decide +kernel
theorem dX6_digits_39 : decode cX6_digits 39 = .ok (.bipush 48, 2) := by decide +kernel
theorem dX6_digits_41 : decode cX6_digits 41 = .ok (.isub, 1) := by decide +kernel
theorem dX6_digits_42 : decode cX6_digits 42 = .ok (.istore_n 2, 1) := by decide +kernel
theorem dX6_digits_43 : decode cX6_digits 43 = .ok (.aload_n 0, 1) := by decide +kernel
theorem dX6_digits_44 : decode cX6_digits 44 = .ok (.dup, 1) := by decide +kernel
theorem dX6_digits_45 : decode cX6_digits 45 = .ok (.getfield 179, 3) := by decide +kernel
theorem dX6_digits_48 : decode cX6_digits 48 = .ok (.iconst 1, 1) := by decide +kernel
theorem dX6_digits_49 : decode cX6_digits 49 = .ok (.iadd, 1) := by decide +kernel
theorem dX6_digits_50 : decode cX6_digits 50 = .ok (.putfield 179, 3) := by decide +kernel
theorem dX6_digits_53 : decode cX6_digits 53 = .ok (.iinc 3 1, 3) := by decide +kernel
theorem dX6_digits_56 : decode cX6_digits 56 = .ok (.goto (-52), 3) := by decide +kernel
theorem dX6_digits_59 : decode cX6_digits 59 = .ok (.aload_n 0, 1) := by decide +kernel
theorem dX6_digits_60 : decode cX6_digits 60 = .ok (.dup, 1) := by decide +kernel
theorem dX6_digits_61 : decode cX6_digits 61 = .ok (.getfield 185, 3) := by decide +kernel
theorem dX6_digits_64 : decode cX6_digits 64 = .ok (.iload_n 3, 1) := by decide +kernel
theorem dX6_digits_65 : decode cX6_digits 65 = .ok (.ifCond .ne 7, 3) := by decide +kernel
theorem dX6_digits_68 : decode cX6_digits 68 = .ok (.iconst 1, 1) := by decide +kernel
theorem dX6_digits_69 : decode cX6_digits 69 = .ok (.goto 4, 3) := by decide +kernel
theorem dX6_digits_72 : decode cX6_digits 72 = .ok (.iconst 0, 1) := by decide +kernel
theorem dX6_digits_73 : decode cX6_digits 73 = .ok (.ior, 1) := by decide +kernel
theorem dX6_digits_74 : decode cX6_digits 74 = .ok (.putfield 185, 3) := by decide +kernel
theorem dX6_digits_77 : decode cX6_digits 77 = .ok (.iload_n 2, 1) := by decide +kernel
theorem dX6_digits_78 : decode cX6_digits 78 = .ok (.ireturn, 1) := by decide +kernel
theorem dX6_behind_0 : decode cX6_behind 0 = .ok (.aload_n 0, 1) := by decide +kernel
theorem dX6_behind_1 : decode cX6_behind 1 = .ok (.bipush 32, 2) := by decide +kernel
theorem dX6_behind_3 : decode cX6_behind 3 = .ok (.invokevirtual 192, 3) := by decide +kernel
theorem dX6_behind_6 : decode cX6_behind 6 = .ok (.aload_n 0, 1) := by decide +kernel
theorem dX6_behind_7 : decode cX6_behind 7 = .ok (.getfield 185, 3) := by decide +kernel
theorem dX6_behind_10 : decode cX6_behind 10 = .ok (.ifCond .eq 7, 3) := by decide +kernel
theorem dX6_behind_13 : decode cX6_behind 13 = .ok (.iconst 0, 1) := by decide +kernel
theorem dX6_behind_14 : decode cX6_behind 14 = .ok (.goto 8, 3) := by decide +kernel
theorem dX6_behind_17 : decode cX6_behind 17 = .ok (.aload_n 0, 1) := by decide +kernel
theorem dX6_behind_18 : decode cX6_behind 18 = .ok (.iload_n 1, 1) := by decide +kernel
theorem dX6_behind_19 : decode cX6_behind 19 = .ok (.invokevirtual 195, 3) := by decide +kernel
theorem dX6_behind_22 : decode cX6_behind 22 = .ok (.ireturn, 1) := by decide +kernel
theorem dX6_word_0 : decode cX6_word 0 = .ok (.iconst 0, 1) := by decide +kernel
theorem dX6_word_1 : decode cX6_word 1 = .ok (.istore_n 1, 1) := by decide +kernel
theorem dX6_word_2 : decode cX6_word 2 = .ok (.iload_n 1, 1) := by decide +kernel
theorem dX6_word_3 : decode cX6_word 3 = .ok (.bipush 9, 2) := by decide +kernel
theorem dX6_word_5 : decode cX6_word 5 = .ok (.if_icmp .ge 16, 3) := by decide +kernel
theorem dX6_word_8 : decode cX6_word 8 = .ok (.aload_n 0, 1) := by decide +kernel
theorem dX6_word_9 : decode cX6_word 9 = .ok (.getfield 38, 3) := by decide +kernel
theorem dX6_word_12 : decode cX6_word 12 = .ok (.iload_n 1, 1) := by decide +kernel
theorem dX6_word_13 : decode cX6_word 13 = .ok (.iconst 1, 1) := by decide +kernel
theorem dX6_word_14 : decode cX6_word 14 = .ok (.iastore, 1) := by decide +kernel
theorem dX6_word_15 : decode cX6_word 15 = .ok (.iinc 1 1, 3) := by decide +kernel
theorem dX6_word_18 : decode cX6_word 18 = .ok (.goto (-16), 3) := by decide +kernel
theorem dX6_word_21 : decode cX6_word 21 = .ok (.iconst 0, 1) := by decide +kernel
theorem dX6_word_22 : decode cX6_word 22 = .ok (.istore_n 1, 1) := by decide +kernel
theorem dX6_word_23 : decode cX6_word 23 = .ok (.iconst (-1), 1) := by decide +kernel
theorem dX6_word_24 : decode cX6_word 24 = .ok (.istore_n 2, 1) := by decide +kernel
theorem dX6_word_25 : decode cX6_word 25 = .ok (.iload_n 2, 1) := by decide +kernel
theorem dX6_word_26 : decode cX6_word 26 = .ok (.ifCond .ge 196, 3) := by decide +kernel
theorem dX6_word_29 : decode cX6_word 29 = .ok (.aload_n 0, 1) := by decide +kernel
theorem dX6_word_30 : decode cX6_word 30 = .ok (.getfield 185, 3) := by decide +kernel
theorem dX6_word_33 : decode cX6_word 33 = .ok (.ifCond .ne 189, 3) := by decide +kernel
theorem dX6_word_36 : decode cX6_word 36 = .ok (.iconst 0, 1) := by decide +kernel
theorem dX6_word_37 : decode cX6_word 37 = .ok (.istore_n 3, 1) := by decide +kernel
theorem dX6_word_38 : decode cX6_word 38 = .ok (.iconst 0, 1) := by decide +kernel
theorem dX6_word_39 : decode cX6_word 39 = .ok (.istore 4, 2) := by decide +kernel
theorem dX6_word_41 : decode cX6_word 41 = .ok (.iload 4, 2) := by decide +kernel
theorem dX6_word_43 : decode cX6_word 43 = .ok (.bipush 9, 2) := by decide +kernel
theorem dX6_word_45 : decode cX6_word 45 = .ok (.if_icmp .ge 85, 3) := by decide +kernel
theorem dX6_word_48 : decode cX6_word 48 = .ok (.aload_n 0, 1) := by decide +kernel
theorem dX6_word_49 : decode cX6_word 49 = .ok (.getfield 38, 3) := by decide +kernel
theorem dX6_word_52 : decode cX6_word 52 = .ok (.iload 4, 2) := by decide +kernel
theorem dX6_word_54 : decode cX6_word 54 = .ok (.dup2, 1) := by decide +kernel
theorem dX6_word_55 : decode cX6_word 55 = .ok (.iaload, 1) := by decide +kernel
theorem dX6_word_56 : decode cX6_word 56 = .ok (.aload_n 0, 1) := by decide +kernel
theorem dX6_word_57 : decode cX6_word 57 = .ok (.getfield 44, 3) := by decide +kernel
theorem dX6_word_60 : decode cX6_word 60 = .ok (.iload 4, 2) := by decide +kernel
theorem dX6_word_62 : decode cX6_word 62 = .ok (.iaload, 1) := by decide +kernel
theorem dX6_word_63 : decode cX6_word 63 = .ok (.iload_n 1, 1) := by decide +kernel
theorem dX6_word_64 : decode cX6_word 64 = .ok (.iadd, 1) := by decide +kernel
theorem dX6_word_65 : decode cX6_word 65 = .ok (.aload_n 0, 1) := by decide +kernel
theorem dX6_word_66 : decode cX6_word 66 = .ok (.getfield 44, 3) := by decide +kernel
theorem dX6_word_69 : decode cX6_word 69 = .ok (.iload 4, 2) := by decide +kernel
theorem dX6_word_71 : decode cX6_word 71 = .ok (.iconst 1, 1) := by decide +kernel
theorem dX6_word_72 : decode cX6_word 72 = .ok (.iadd, 1) := by decide +kernel
theorem dX6_word_73 : decode cX6_word 73 = .ok (.iaload, 1) := by decide +kernel
theorem dX6_word_74 : decode cX6_word 74 = .ok (.if_icmp .ge 28, 3) := by decide +kernel
theorem dX6_word_77 : decode cX6_word 77 = .ok (.aload_n 0, 1) := by decide +kernel
theorem dX6_word_78 : decode cX6_word 78 = .ok (.getfield 41, 3) := by decide +kernel
theorem dX6_word_81 : decode cX6_word 81 = .ok (.aload_n 0, 1) := by decide +kernel
theorem dX6_word_82 : decode cX6_word 82 = .ok (.getfield 44, 3) := by decide +kernel
theorem dX6_word_85 : decode cX6_word 85 = .ok (.iload 4, 2) := by decide +kernel
theorem dX6_word_87 : decode cX6_word 87 = .ok (.iaload, 1) := by decide +kernel
theorem dX6_word_88 : decode cX6_word 88 = .ok (.iload_n 1, 1) := by decide +kernel
theorem dX6_word_89 : decode cX6_word 89 = .ok (.iadd, 1) := by decide +kernel
theorem dX6_word_90 : decode cX6_word 90 = .ok (.iaload, 1) := by decide +kernel
theorem dX6_word_91 : decode cX6_word 91 = .ok (.aload_n 0, 1) := by decide +kernel
theorem dX6_word_92 : decode cX6_word 92 = .ok (.invokevirtual 189, 3) := by decide +kernel
theorem dX6_word_95 : decode cX6_word 95 = .ok (.if_icmp .ne 7, 3) := by decide +kernel
theorem dX6_word_98 : decode cX6_word 98 = .ok (.iconst 1, 1) := by decide +kernel
theorem dX6_word_99 : decode cX6_word 99 = .ok (.goto 4, 3) := by decide +kernel
theorem dX6_word_102 : decode cX6_word 102 = .ok (.iconst 0, 1) := by decide +kernel
theorem dX6_word_103 : decode cX6_word 103 = .ok (.iand, 1) := by decide +kernel
theorem dX6_word_104 : decode cX6_word 104 = .ok (.iastore, 1) := by decide +kernel
theorem dX6_word_105 : decode cX6_word 105 = .ok (.iload_n 3, 1) := by decide +kernel
theorem dX6_word_106 : decode cX6_word 106 = .ok (.aload_n 0, 1) := by decide +kernel
theorem dX6_word_107 : decode cX6_word 107 = .ok (.getfield 38, 3) := by decide +kernel
theorem dX6_word_110 : decode cX6_word 110 = .ok (.iload 4, 2) := by decide +kernel
theorem dX6_word_112 : decode cX6_word 112 = .ok (.iaload, 1) := by decide +kernel
theorem dX6_word_113 : decode cX6_word 113 = .ok (.iconst 1, 1) := by decide +kernel
theorem dX6_word_114 : decode cX6_word 114 = .ok (.if_icmp .ne 7, 3) := by decide +kernel
theorem dX6_word_117 : decode cX6_word 117 = .ok (.iconst 1, 1) := by decide +kernel
theorem dX6_word_118 : decode cX6_word 118 = .ok (.goto 4, 3) := by decide +kernel
theorem dX6_word_121 : decode cX6_word 121 = .ok (.iconst 0, 1) := by decide +kernel
theorem dX6_word_122 : decode cX6_word 122 = .ok (.ior, 1) := by decide +kernel
theorem dX6_word_123 : decode cX6_word 123 = .ok (.istore_n 3, 1) := by decide +kernel
theorem dX6_word_124 : decode cX6_word 124 = .ok (.iinc 4 1, 3) := by decide +kernel
theorem dX6_word_127 : decode cX6_word 127 = .ok (.goto (-86), 3) := by decide +kernel
theorem dX6_word_130 : decode cX6_word 130 = .ok (.aload_n 0, 1) := by decide +kernel
theorem dX6_word_131 : decode cX6_word 131 = .ok (.iload_n 3, 1) := by decide +kernel
theorem dX6_word_132 : decode cX6_word 132 = .ok (.ifCond .ne 7, 3) := by decide +kernel
theorem dX6_word_135 : decode cX6_word 135 = .ok (.iconst 1, 1) := by decide +kernel
theorem dX6_word_136 : decode cX6_word 136 = .ok (.goto 4, 3) := by decide +kernel
theorem dX6_word_139 : decode cX6_word 139 = .ok (.iconst 0, 1) := by decide +kernel
theorem dX6_word_140 : decode cX6_word 140 = .ok (.putfield 185, 3) := by decide +kernel
theorem dX6_word_143 : decode cX6_word 143 = .ok (.aload_n 0, 1) := by decide +kernel
theorem dX6_word_144 : decode cX6_word 144 = .ok (.dup, 1) := by decide +kernel
theorem dX6_word_145 : decode cX6_word 145 = .ok (.getfield 179, 3) := by decide +kernel
theorem dX6_word_148 : decode cX6_word 148 = .ok (.iload_n 3, 1) := by decide +kernel
theorem dX6_word_149 : decode cX6_word 149 = .ok (.ifCond .eq 7, 3) := by decide +kernel
theorem dX6_word_152 : decode cX6_word 152 = .ok (.iconst 1, 1) := by decide +kernel
theorem dX6_word_153 : decode cX6_word 153 = .ok (.goto 4, 3) := by decide +kernel
theorem dX6_word_156 : decode cX6_word 156 = .ok (.iconst 0, 1) := by decide +kernel
theorem dX6_word_157 : decode cX6_word 157 = .ok (.iadd, 1) := by decide +kernel
theorem dX6_word_158 : decode cX6_word 158 = .ok (.putfield 179, 3) := by decide +kernel
theorem dX6_word_161 : decode cX6_word 161 = .ok (.iinc 1 1, 3) := by decide +kernel
theorem dX6_word_164 : decode cX6_word 164 = .ok (.iconst 0, 1) := by decide +kernel
theorem dX6_word_165 : decode cX6_word 165 = .ok (.istore 4, 2) := by decide +kernel
theorem dX6_word_167 : decode cX6_word 167 = .ok (.iload 4, 2) := by decide +kernel
theorem dX6_word_169 : decode cX6_word 169 = .ok (.bipush 9, 2) := by decide +kernel
theorem dX6_word_171 : decode cX6_word 171 = .ok (.if_icmp .ge 48, 3) := by decide +kernel
theorem dX6_word_174 : decode cX6_word 174 = .ok (.aload_n 0, 1) := by decide +kernel
theorem dX6_word_175 : decode cX6_word 175 = .ok (.getfield 38, 3) := by decide +kernel
theorem dX6_word_178 : decode cX6_word 178 = .ok (.iload 4, 2) := by decide +kernel
theorem dX6_word_180 : decode cX6_word 180 = .ok (.iaload, 1) := by decide +kernel
theorem dX6_word_181 : decode cX6_word 181 = .ok (.iconst 1, 1) := by decide +kernel
theorem dX6_word_182 : decode cX6_word 182 = .ok (.if_icmp .ne 29, 3) := by decide +kernel
theorem dX6_word_185 : decode cX6_word 185 = .ok (.aload_n 0, 1) := by decide +kernel
theorem dX6_word_186 : decode cX6_word 186 = .ok (.getfield 44, 3) := by decide +kernel
theorem dX6_word_189 : decode cX6_word 189 = .ok (.iload 4, 2) := by decide +kernel
theorem dX6_word_191 : decode cX6_word 191 = .ok (.iaload, 1) := by decide +kernel
theorem dX6_word_192 : decode cX6_word 192 = .ok (.iload_n 1, 1) := by decide +kernel
theorem dX6_word_193 : decode cX6_word 193 = .ok (.iadd, 1) := by decide +kernel
theorem dX6_word_194 : decode cX6_word 194 = .ok (.aload_n 0, 1) := by decide +kernel
theorem dX6_word_195 : decode cX6_word 195 = .ok (.getfield 44, 3) := by decide +kernel
theorem dX6_word_198 : decode cX6_word 198 = .ok (.iload 4, 2) := by decide +kernel
theorem dX6_word_200 : decode cX6_word 200 = .ok (.iconst 1, 1) := by decide +kernel
theorem dX6_word_201 : decode cX6_word 201 = .ok (.iadd, 1) := by decide +kernel
theorem dX6_word_202 : decode cX6_word 202 = .ok (.iaload, 1) := by decide +kernel
theorem dX6_word_203 : decode cX6_word 203 = .ok (.if_icmp .ne 8, 3) := by decide +kernel
theorem dX6_word_206 : decode cX6_word 206 = .ok (.iload 4, 2) := by decide +kernel
theorem dX6_word_208 : decode cX6_word 208 = .ok (.goto 4, 3) := by decide +kernel
theorem dX6_word_211 : decode cX6_word 211 = .ok (.iload_n 2, 1) := by decide +kernel
theorem dX6_word_212 : decode cX6_word 212 = .ok (.istore_n 2, 1) := by decide +kernel
theorem dX6_word_213 : decode cX6_word 213 = .ok (.iinc 4 1, 3) := by decide +kernel
theorem dX6_word_216 : decode cX6_word 216 = .ok (.goto (-49), 3) := by decide +kernel
theorem dX6_word_219 : decode cX6_word 219 = .ok (.goto (-194), 3) := by decide +kernel
theorem dX6_word_222 : decode cX6_word 222 = .ok (.iload_n 2, 1) := by decide +kernel
theorem dX6_word_223 : decode cX6_word 223 = .ok (.ireturn, 1) := by decide +kernel
theorem dX6_does_0 : decode cX6_does 0 = .ok (.iload_n 1, 1) := by decide +kernel
theorem dX6_does_1 : decode cX6_does 1 = .ok (.tableswitch 102 0 7 #[47, 54, 61, 68, 75, 82, 88, 95], 47) := by decide +kernel
theorem dX6_does_48 : decode cX6_does 48 = .ok (.aload_n 0, 1) := by decide +kernel
theorem dX6_does_49 : decode cX6_does 49 = .ok (.iload_n 2, 1) := by decide +kernel
theorem dX6_does_50 : decode cX6_does 50 = .ok (.iload_n 3, 1) := by decide +kernel
theorem dX6_does_51 : decode cX6_does 51 = .ok (.invokevirtual 79, 3) := by decide +kernel
theorem dX6_does_54 : decode cX6_does 54 = .ok (.ireturn, 1) := by decide +kernel
theorem dX6_does_55 : decode cX6_does 55 = .ok (.aload_n 0, 1) := by decide +kernel
theorem dX6_does_56 : decode cX6_does 56 = .ok (.iload_n 2, 1) := by decide +kernel
theorem dX6_does_57 : decode cX6_does 57 = .ok (.iload_n 3, 1) := by decide +kernel
theorem dX6_does_58 : decode cX6_does 58 = .ok (.invokevirtual 103, 3) := by decide +kernel
theorem dX6_does_61 : decode cX6_does 61 = .ok (.ireturn, 1) := by decide +kernel
theorem dX6_does_62 : decode cX6_does 62 = .ok (.aload_n 0, 1) := by decide +kernel
theorem dX6_does_63 : decode cX6_does 63 = .ok (.iload_n 2, 1) := by decide +kernel
theorem dX6_does_64 : decode cX6_does 64 = .ok (.iload_n 3, 1) := by decide +kernel
theorem dX6_does_65 : decode cX6_does 65 = .ok (.invokevirtual 106, 3) := by decide +kernel
theorem dX6_does_68 : decode cX6_does 68 = .ok (.ireturn, 1) := by decide +kernel
theorem dX6_does_69 : decode cX6_does 69 = .ok (.aload_n 0, 1) := by decide +kernel
theorem dX6_does_70 : decode cX6_does 70 = .ok (.iload_n 2, 1) := by decide +kernel
theorem dX6_does_71 : decode cX6_does 71 = .ok (.iload_n 3, 1) := by decide +kernel
theorem dX6_does_72 : decode cX6_does 72 = .ok (.invokevirtual 112, 3) := by decide +kernel
theorem dX6_does_75 : decode cX6_does 75 = .ok (.ireturn, 1) := by decide +kernel
theorem dX6_does_76 : decode cX6_does 76 = .ok (.aload_n 0, 1) := by decide +kernel
theorem dX6_does_77 : decode cX6_does 77 = .ok (.iload_n 2, 1) := by decide +kernel
theorem dX6_does_78 : decode cX6_does 78 = .ok (.iload_n 3, 1) := by decide +kernel
theorem dX6_does_79 : decode cX6_does 79 = .ok (.invokevirtual 118, 3) := by decide +kernel
theorem dX6_does_82 : decode cX6_does 82 = .ok (.ireturn, 1) := by decide +kernel
theorem dX6_does_83 : decode cX6_does 83 = .ok (.aload_n 0, 1) := by decide +kernel
theorem dX6_does_84 : decode cX6_does 84 = .ok (.iload_n 2, 1) := by decide +kernel
theorem dX6_does_85 : decode cX6_does 85 = .ok (.invokevirtual 121, 3) := by decide +kernel
theorem dX6_does_88 : decode cX6_does 88 = .ok (.ireturn, 1) := by decide +kernel
theorem dX6_does_89 : decode cX6_does 89 = .ok (.aload_n 0, 1) := by decide +kernel
theorem dX6_does_90 : decode cX6_does 90 = .ok (.iload_n 2, 1) := by decide +kernel
theorem dX6_does_91 : decode cX6_does 91 = .ok (.iload_n 3, 1) := by decide +kernel
theorem dX6_does_92 : decode cX6_does 92 = .ok (.invokevirtual 124, 3) := by decide +kernel
theorem dX6_does_95 : decode cX6_does 95 = .ok (.ireturn, 1) := by decide +kernel
theorem dX6_does_96 : decode cX6_does 96 = .ok (.aload_n 0, 1) := by decide +kernel
theorem dX6_does_97 : decode cX6_does 97 = .ok (.iload_n 2, 1) := by decide +kernel
theorem dX6_does_98 : decode cX6_does 98 = .ok (.iload_n 3, 1) := by decide +kernel
theorem dX6_does_99 : decode cX6_does 99 = .ok (.invokevirtual 109, 3) := by decide +kernel
theorem dX6_does_102 : decode cX6_does 102 = .ok (.ireturn, 1) := by decide +kernel
theorem dX6_does_103 : decode cX6_does 103 = .ok (.aload_n 0, 1) := by decide +kernel
theorem dX6_does_104 : decode cX6_does 104 = .ok (.iload_n 2, 1) := by decide +kernel
theorem dX6_does_105 : decode cX6_does 105 = .ok (.invokevirtual 142, 3) := by decide +kernel
theorem dX6_does_108 : decode cX6_does 108 = .ok (.ireturn, 1) := by decide +kernel
theorem dX6_command_0 : decode cX6_command 0 = .ok (.aload_n 0, 1) := by decide +kernel
theorem dX6_command_1 : decode cX6_command 1 = .ok (.invokevirtual 198, 3) := by decide +kernel
theorem dX6_command_4 : decode cX6_command 4 = .ok (.istore_n 1, 1) := by decide +kernel
theorem dX6_command_5 : decode cX6_command 5 = .ok (.iconst 1, 1) := by decide +kernel
theorem dX6_command_6 : decode cX6_command 6 = .ok (.istore_n 2, 1) := by decide +kernel
theorem dX6_command_7 : decode cX6_command 7 = .ok (.iconst 0, 1) := by decide +kernel
theorem dX6_command_8 : decode cX6_command 8 = .ok (.istore_n 3, 1) := by decide +kernel
theorem dX6_command_9 : decode cX6_command 9 = .ok (.aload_n 0, 1) := by decide +kernel
theorem dX6_command_10 : decode cX6_command 10 = .ok (.getfield 185, 3) := by decide +kernel
theorem dX6_command_13 : decode cX6_command 13 = .ok (.ifCond .eq 4, 3) := by decide +kernel
theorem dX6_command_16 : decode cX6_command 16 = .ok (.return_, 1) := by decide +kernel
theorem dX6_command_17 : decode cX6_command 17 = .ok (.iload_n 1, 1) := by decide +kernel
theorem dX6_command_18 : decode cX6_command 18 = .ok (.bipush 8, 2) := by decide +kernel
theorem dX6_command_20 : decode cX6_command 20 = .ok (.if_icmp .ne 18, 3) := by decide +kernel
theorem dX6_command_23 : decode cX6_command 23 = .ok (.aload_n 0, 1) := by decide +kernel
theorem dX6_command_24 : decode cX6_command 24 = .ok (.invokevirtual 189, 3) := by decide +kernel
theorem dX6_command_27 : decode cX6_command 27 = .ok (.bipush 32, 2) := by decide +kernel
theorem dX6_command_29 : decode cX6_command 29 = .ok (.if_icmp .ne 9, 3) := by decide +kernel
theorem dX6_command_32 : decode cX6_command 32 = .ok (.aload_n 0, 1) := by decide +kernel
theorem dX6_command_33 : decode cX6_command 33 = .ok (.iconst 2, 1) := by decide +kernel
theorem dX6_command_34 : decode cX6_command 34 = .ok (.invokevirtual 201, 3) := by decide +kernel
theorem dX6_command_37 : decode cX6_command 37 = .ok (.istore_n 2, 1) := by decide +kernel
theorem dX6_command_38 : decode cX6_command 38 = .ok (.iload_n 1, 1) := by decide +kernel
theorem dX6_command_39 : decode cX6_command 39 = .ok (.bipush 8, 2) := by decide +kernel
theorem dX6_command_41 : decode cX6_command 41 = .ok (.if_icmp .ge 28, 3) := by decide +kernel
theorem dX6_command_44 : decode cX6_command 44 = .ok (.aload_n 0, 1) := by decide +kernel
theorem dX6_command_45 : decode cX6_command 45 = .ok (.iload_n 1, 1) := by decide +kernel
theorem dX6_command_46 : decode cX6_command 46 = .ok (.ifCond .eq 14, 3) := by decide +kernel
theorem dX6_command_49 : decode cX6_command 49 = .ok (.iload_n 1, 1) := by decide +kernel
theorem dX6_command_50 : decode cX6_command 50 = .ok (.iconst 4, 1) := by decide +kernel
theorem dX6_command_51 : decode cX6_command 51 = .ok (.if_icmp .lt 13, 3) := by decide +kernel
theorem dX6_command_54 : decode cX6_command 54 = .ok (.iload_n 1, 1) := by decide +kernel
theorem dX6_command_55 : decode cX6_command 55 = .ok (.bipush 6, 2) := by decide +kernel
theorem dX6_command_57 : decode cX6_command 57 = .ok (.if_icmp .gt 7, 3) := by decide +kernel
theorem dX6_command_60 : decode cX6_command 60 = .ok (.iconst 1, 1) := by decide +kernel
theorem dX6_command_61 : decode cX6_command 61 = .ok (.goto 4, 3) := by decide +kernel
theorem dX6_command_64 : decode cX6_command 64 = .ok (.iconst 2, 1) := by decide +kernel
theorem dX6_command_65 : decode cX6_command 65 = .ok (.invokevirtual 195, 3) := by decide +kernel
theorem dX6_command_68 : decode cX6_command 68 = .ok (.istore_n 2, 1) := by decide +kernel
theorem dX6_command_69 : decode cX6_command 69 = .ok (.iload_n 1, 1) := by decide +kernel
theorem dX6_command_70 : decode cX6_command 70 = .ok (.bipush 8, 2) := by decide +kernel
theorem dX6_command_72 : decode cX6_command 72 = .ok (.if_icmp .ge 40, 3) := by decide +kernel
theorem dX6_command_75 : decode cX6_command 75 = .ok (.iload_n 1, 1) := by decide +kernel
theorem dX6_command_76 : decode cX6_command 76 = .ok (.iconst 5, 1) := by decide +kernel
theorem dX6_command_77 : decode cX6_command 77 = .ok (.if_icmp .eq 35, 3) := by decide +kernel
theorem dX6_command_80 : decode cX6_command 80 = .ok (.aload_n 0, 1) := by decide +kernel
theorem dX6_command_81 : decode cX6_command 81 = .ok (.getfield 185, 3) := by decide +kernel
theorem dX6_command_84 : decode cX6_command 84 = .ok (.ifCond .ne 28, 3) := by decide +kernel
theorem dX6_command_87 : decode cX6_command 87 = .ok (.aload_n 0, 1) := by decide +kernel
theorem dX6_command_88 : decode cX6_command 88 = .ok (.iload_n 1, 1) := by decide +kernel
theorem dX6_command_89 : decode cX6_command 89 = .ok (.iconst 1, 1) := by decide +kernel
theorem dX6_command_90 : decode cX6_command 90 = .ok (.if_icmp .eq 13, 3) := by decide +kernel
theorem dX6_command_93 : decode cX6_command 93 = .ok (.iload_n 1, 1) := by decide +kernel
theorem dX6_command_94 : decode cX6_command 94 = .ok (.iconst 2, 1) := by decide +kernel
theorem dX6_command_95 : decode cX6_command 95 = .ok (.if_icmp .eq 8, 3) := by decide +kernel
theorem dX6_command_98 : decode cX6_command 98 = .ok (.iload_n 1, 1) := by decide +kernel
theorem dX6_command_99 : decode cX6_command 99 = .ok (.iconst 4, 1) := by decide +kernel
theorem dX6_command_100 : decode cX6_command 100 = .ok (.if_icmp .ne 7, 3) := by decide +kernel
theorem dX6_command_103 : decode cX6_command 103 = .ok (.iconst 2, 1) := by decide +kernel
theorem dX6_command_104 : decode cX6_command 104 = .ok (.goto 4, 3) := by decide +kernel
theorem dX6_command_107 : decode cX6_command 107 = .ok (.iconst 1, 1) := by decide +kernel
theorem dX6_command_108 : decode cX6_command 108 = .ok (.invokevirtual 201, 3) := by decide +kernel
theorem dX6_command_111 : decode cX6_command 111 = .ok (.istore_n 3, 1) := by decide +kernel
theorem dX6_command_112 : decode cX6_command 112 = .ok (.aload_n 0, 1) := by decide +kernel
theorem dX6_command_113 : decode cX6_command 113 = .ok (.getfield 185, 3) := by decide +kernel
theorem dX6_command_116 : decode cX6_command 116 = .ok (.ifCond .ne 10, 3) := by decide +kernel
theorem dX6_command_119 : decode cX6_command 119 = .ok (.aload_n 0, 1) := by decide +kernel
theorem dX6_command_120 : decode cX6_command 120 = .ok (.getfield 204, 3) := by decide +kernel
theorem dX6_command_123 : decode cX6_command 123 = .ok (.ifCond .ne 4, 3) := by decide +kernel
theorem dX6_command_126 : decode cX6_command 126 = .ok (.return_, 1) := by decide +kernel
theorem dX6_command_127 : decode cX6_command 127 = .ok (.aload_n 0, 1) := by decide +kernel
theorem dX6_command_128 : decode cX6_command 128 = .ok (.iload_n 1, 1) := by decide +kernel
theorem dX6_command_129 : decode cX6_command 129 = .ok (.iload_n 2, 1) := by decide +kernel
theorem dX6_command_130 : decode cX6_command 130 = .ok (.iload_n 3, 1) := by decide +kernel
theorem dX6_command_131 : decode cX6_command 131 = .ok (.invokevirtual 207, 3) := by decide +kernel
theorem dX6_command_134 : decode cX6_command 134 = .ok (.istore 4, 2) := by decide +kernel
theorem dX6_command_136 : decode cX6_command 136 = .ok (.return_, 1) := by decide +kernel
theorem dX6_commands_0 : decode cX6_commands 0 = .ok (.aload_n 0, 1) := by decide +kernel
theorem dX6_commands_1 : decode cX6_commands 1 = .ok (.iconst 0, 1) := by decide +kernel
theorem dX6_commands_2 : decode cX6_commands 2 = .ok (.putfield 179, 3) := by decide +kernel
theorem dX6_commands_5 : decode cX6_commands 5 = .ok (.aload_n 0, 1) := by decide +kernel
theorem dX6_commands_6 : decode cX6_commands 6 = .ok (.iconst 0, 1) := by decide +kernel
theorem dX6_commands_7 : decode cX6_commands 7 = .ok (.putfield 185, 3) := by decide +kernel
theorem dX6_commands_10 : decode cX6_commands 10 = .ok (.iconst 1, 1) := by decide +kernel
theorem dX6_commands_11 : decode cX6_commands 11 = .ok (.istore_n 1, 1) := by decide +kernel
theorem dX6_commands_12 : decode cX6_commands 12 = .ok (.aload_n 0, 1) := by decide +kernel
theorem dX6_commands_13 : decode cX6_commands 13 = .ok (.invokevirtual 211, 3) := by decide +kernel
theorem dX6_commands_16 : decode cX6_commands 16 = .ok (.aload_n 0, 1) := by decide +kernel
theorem dX6_commands_17 : decode cX6_commands 17 = .ok (.getfield 185, 3) := by decide +kernel
theorem dX6_commands_20 : decode cX6_commands 20 = .ok (.ifCond .ne 44, 3) := by decide +kernel
theorem dX6_commands_23 : decode cX6_commands 23 = .ok (.aload_n 0, 1) := by decide +kernel
theorem dX6_commands_24 : decode cX6_commands 24 = .ok (.getfield 47, 3) := by decide +kernel
theorem dX6_commands_27 : decode cX6_commands 27 = .ok (.ifCond .ne 37, 3) := by decide +kernel
theorem dX6_commands_30 : decode cX6_commands 30 = .ok (.aload_n 0, 1) := by decide +kernel
theorem dX6_commands_31 : decode cX6_commands 31 = .ok (.getfield 179, 3) := by decide +kernel
theorem dX6_commands_34 : decode cX6_commands 34 = .ok (.aload_n 0, 1) := by decide +kernel
theorem dX6_commands_35 : decode cX6_commands 35 = .ok (.getfield 182, 3) := by decide +kernel
theorem dX6_commands_38 : decode cX6_commands 38 = .ok (.if_icmp .ge 26, 3) := by decide +kernel
theorem dX6_commands_41 : decode cX6_commands 41 = .ok (.aload_n 0, 1) := by decide +kernel
theorem dX6_commands_42 : decode cX6_commands 42 = .ok (.bipush 59, 2) := by decide +kernel
theorem dX6_commands_44 : decode cX6_commands 44 = .ok (.invokevirtual 192, 3) := by decide +kernel
theorem dX6_commands_47 : decode cX6_commands 47 = .ok (.aload_n 0, 1) := by decide +kernel
theorem dX6_commands_48 : decode cX6_commands 48 = .ok (.getfield 185, 3) := by decide +kernel
theorem dX6_commands_51 : decode cX6_commands 51 = .ok (.ifCond .ne 7, 3) := by decide +kernel
theorem dX6_commands_54 : decode cX6_commands 54 = .ok (.aload_n 0, 1) := by decide +kernel
theorem dX6_commands_55 : decode cX6_commands 55 = .ok (.invokevirtual 211, 3) := by decide +kernel
theorem dX6_commands_58 : decode cX6_commands 58 = .ok (.iinc 1 1, 3) := by decide +kernel
theorem dX6_commands_61 : decode cX6_commands 61 = .ok (.goto (-45), 3) := by decide +kernel
theorem dX6_commands_64 : decode cX6_commands 64 = .ok (.iload_n 1, 1) := by decide +kernel
theorem dX6_commands_65 : decode cX6_commands 65 = .ok (.ireturn, 1) := by decide +kernel
theorem dX6_runScript_0 : decode cX6_runScript 0 = .ok (.aload_n 0, 1) := by decide +kernel
theorem dX6_runScript_1 : decode cX6_runScript 1 = .ok (.invokevirtual 76, 3) := by decide +kernel
theorem dX6_runScript_4 : decode cX6_runScript 4 = .ok (.aload_n 0, 1) := by decide +kernel
theorem dX6_runScript_5 : decode cX6_runScript 5 = .ok (.aload_n 0, 1) := by decide +kernel
theorem dX6_runScript_6 : decode cX6_runScript 6 = .ok (.getfield 176, 3) := by decide +kernel
theorem dX6_runScript_9 : decode cX6_runScript 9 = .ok (.putfield 182, 3) := by decide +kernel
theorem dX6_runScript_12 : decode cX6_runScript 12 = .ok (.aload_n 0, 1) := by decide +kernel
theorem dX6_runScript_13 : decode cX6_runScript 13 = .ok (.iconst 0, 1) := by decide +kernel
theorem dX6_runScript_14 : decode cX6_runScript 14 = .ok (.putfield 176, 3) := by decide +kernel
theorem dX6_runScript_17 : decode cX6_runScript 17 = .ok (.aload_n 0, 1) := by decide +kernel
theorem dX6_runScript_18 : decode cX6_runScript 18 = .ok (.iconst 0, 1) := by decide +kernel
theorem dX6_runScript_19 : decode cX6_runScript 19 = .ok (.putfield 204, 3) := by decide +kernel
theorem dX6_runScript_22 : decode cX6_runScript 22 = .ok (.aload_n 0, 1) := by decide +kernel
theorem dX6_runScript_23 : decode cX6_runScript 23 = .ok (.invokevirtual 214, 3) := by decide +kernel
theorem dX6_runScript_26 : decode cX6_runScript 26 = .ok (.istore_n 1, 1) := by decide +kernel
theorem dX6_runScript_27 : decode cX6_runScript 27 = .ok (.aload_n 0, 1) := by decide +kernel
theorem dX6_runScript_28 : decode cX6_runScript 28 = .ok (.getfield 185, 3) := by decide +kernel
theorem dX6_runScript_31 : decode cX6_runScript 31 = .ok (.ifCond .eq 17, 3) := by decide +kernel
theorem dX6_runScript_34 : decode cX6_runScript 34 = .ok (.aload_n 0, 1) := by decide +kernel
theorem dX6_runScript_35 : decode cX6_runScript 35 = .ok (.aload_n 0, 1) := by decide +kernel
theorem dX6_runScript_36 : decode cX6_runScript 36 = .ok (.getfield 179, 3) := by decide +kernel
theorem dX6_runScript_39 : decode cX6_runScript 39 = .ok (.putfield 7, 3) := by decide +kernel
theorem dX6_runScript_42 : decode cX6_runScript 42 = .ok (.aload_n 0, 1) := by decide +kernel
theorem dX6_runScript_43 : decode cX6_runScript 43 = .ok (.iconst 1, 1) := by decide +kernel
theorem dX6_runScript_44 : decode cX6_runScript 44 = .ok (.invokevirtual 72, 3) := by decide +kernel
theorem dX6_runScript_47 : decode cX6_runScript 47 = .ok (.ireturn, 1) := by decide +kernel
theorem dX6_runScript_48 : decode cX6_runScript 48 = .ok (.aload_n 0, 1) := by decide +kernel
theorem dX6_runScript_49 : decode cX6_runScript 49 = .ok (.iconst 1, 1) := by decide +kernel
theorem dX6_runScript_50 : decode cX6_runScript 50 = .ok (.putfield 204, 3) := by decide +kernel
theorem dX6_runScript_53 : decode cX6_runScript 53 = .ok (.aload_n 0, 1) := by decide +kernel
theorem dX6_runScript_54 : decode cX6_runScript 54 = .ok (.invokevirtual 214, 3) := by decide +kernel
theorem dX6_runScript_57 : decode cX6_runScript 57 = .ok (.istore_n 1, 1) := by decide +kernel
theorem dX6_runScript_58 : decode cX6_runScript 58 = .ok (.aload_n 0, 1) := by decide +kernel
theorem dX6_runScript_59 : decode cX6_runScript 59 = .ok (.getfield 47, 3) := by decide +kernel
theorem dX6_runScript_62 : decode cX6_runScript 62 = .ok (.ifCond .eq 15, 3) := by decide +kernel
theorem dX6_runScript_65 : decode cX6_runScript 65 = .ok (.aload_n 0, 1) := by decide +kernel
theorem dX6_runScript_66 : decode cX6_runScript 66 = .ok (.iload_n 1, 1) := by decide +kernel
theorem dX6_runScript_67 : decode cX6_runScript 67 = .ok (.iconst 1, 1) := by decide +kernel
theorem dX6_runScript_68 : decode cX6_runScript 68 = .ok (.isub, 1) := by decide +kernel
theorem dX6_runScript_69 : decode cX6_runScript 69 = .ok (.putfield 13, 3) := by decide +kernel
theorem dX6_runScript_72 : decode cX6_runScript 72 = .ok (.aload_n 0, 1) := by decide +kernel
theorem dX6_runScript_73 : decode cX6_runScript 73 = .ok (.iconst 2, 1) := by decide +kernel
theorem dX6_runScript_74 : decode cX6_runScript 74 = .ok (.putfield 47, 3) := by decide +kernel
theorem dX6_runScript_77 : decode cX6_runScript 77 = .ok (.aload_n 0, 1) := by decide +kernel
theorem dX6_runScript_78 : decode cX6_runScript 78 = .ok (.iload_n 1, 1) := by decide +kernel
theorem dX6_runScript_79 : decode cX6_runScript 79 = .ok (.invokevirtual 82, 3) := by decide +kernel
theorem dX6_runScript_82 : decode cX6_runScript 82 = .ok (.ireturn, 1) := by decide +kernel
theorem dX6_errorPosition_0 : decode cX6_errorPosition 0 = .ok (.aload_n 0, 1) := by decide +kernel
theorem dX6_errorPosition_1 : decode cX6_errorPosition 1 = .ok (.aload_n 0, 1) := by decide +kernel
theorem dX6_errorPosition_2 : decode cX6_errorPosition 2 = .ok (.getfield 7, 3) := by decide +kernel
theorem dX6_errorPosition_5 : decode cX6_errorPosition 5 = .ok (.ifCond .ge 7, 3) := by decide +kernel
theorem dX6_errorPosition_8 : decode cX6_errorPosition 8 = .ok (.iconst 1, 1) := by decide +kernel
theorem dX6_errorPosition_9 : decode cX6_errorPosition 9 = .ok (.goto 4, 3) := by decide +kernel
theorem dX6_errorPosition_12 : decode cX6_errorPosition 12 = .ok (.iconst 0, 1) := by decide +kernel
theorem dX6_errorPosition_13 : decode cX6_errorPosition 13 = .ok (.putfield 47, 3) := by decide +kernel
theorem dX6_errorPosition_16 : decode cX6_errorPosition 16 = .ok (.aload_n 0, 1) := by decide +kernel
theorem dX6_errorPosition_17 : decode cX6_errorPosition 17 = .ok (.getfield 47, 3) := by decide +kernel
theorem dX6_errorPosition_20 : decode cX6_errorPosition 20 = .ok (.ifCond .ne 10, 3) := by decide +kernel
theorem dX6_errorPosition_23 : decode cX6_errorPosition 23 = .ok (.aload_n 0, 1) := by decide +kernel
theorem dX6_errorPosition_24 : decode cX6_errorPosition 24 = .ok (.getfield 7, 3) := by decide +kernel
theorem dX6_errorPosition_27 : decode cX6_errorPosition 27 = .ok (.goto 4, 3) := by decide +kernel
theorem dX6_errorPosition_30 : decode cX6_errorPosition 30 = .ok (.iconst 0, 1) := by decide +kernel
theorem dX6_errorPosition_31 : decode cX6_errorPosition 31 = .ok (.ireturn, 1) := by decide +kernel
theorem dX6_failedCommand_0 : decode cX6_failedCommand 0 = .ok (.aload_n 0, 1) := by decide +kernel
theorem dX6_failedCommand_1 : decode cX6_failedCommand 1 = .ok (.aload_n 0, 1) := by decide +kernel
theorem dX6_failedCommand_2 : decode cX6_failedCommand 2 = .ok (.getfield 13, 3) := by decide +kernel
theorem dX6_failedCommand_5 : decode cX6_failedCommand 5 = .ok (.ifCond .ge 7, 3) := by decide +kernel
theorem dX6_failedCommand_8 : decode cX6_failedCommand 8 = .ok (.iconst 1, 1) := by decide +kernel
theorem dX6_failedCommand_9 : decode cX6_failedCommand 9 = .ok (.goto 4, 3) := by decide +kernel
theorem dX6_failedCommand_12 : decode cX6_failedCommand 12 = .ok (.iconst 0, 1) := by decide +kernel
theorem dX6_failedCommand_13 : decode cX6_failedCommand 13 = .ok (.putfield 47, 3) := by decide +kernel
theorem dX6_failedCommand_16 : decode cX6_failedCommand 16 = .ok (.aload_n 0, 1) := by decide +kernel
theorem dX6_failedCommand_17 : decode cX6_failedCommand 17 = .ok (.getfield 47, 3) := by decide +kernel
theorem dX6_failedCommand_20 : decode cX6_failedCommand 20 = .ok (.ifCond .ne 10, 3) := by decide +kernel
theorem dX6_failedCommand_23 : decode cX6_failedCommand 23 = .ok (.aload_n 0, 1) := by decide +kernel
theorem dX6_failedCommand_24 : decode cX6_failedCommand 24 = .ok (.getfield 13, 3) := by decide +kernel
theorem dX6_failedCommand_27 : decode cX6_failedCommand 27 = .ok (.goto 4, 3) := by decide +kernel
theorem dX6_failedCommand_30 : decode cX6_failedCommand 30 = .ok (.iconst 0, 1) := by decide +kernel
theorem dX6_failedCommand_31 : decode cX6_failedCommand 31 = .ok (.ireturn, 1) := by decide +kernel
theorem dX6_undo_0 : decode cX6_undo 0 = .ok (.aload_n 0, 1) := by decide +kernel
theorem dX6_undo_1 : decode cX6_undo 1 = .ok (.aload_n 0, 1) := by decide +kernel
theorem dX6_undo_2 : decode cX6_undo 2 = .ok (.getfield 54, 3) := by decide +kernel
theorem dX6_undo_5 : decode cX6_undo 5 = .ok (.ifCond .ne 7, 3) := by decide +kernel
theorem dX6_undo_8 : decode cX6_undo 8 = .ok (.iconst 1, 1) := by decide +kernel
theorem dX6_undo_9 : decode cX6_undo 9 = .ok (.goto 4, 3) := by decide +kernel
theorem dX6_undo_12 : decode cX6_undo 12 = .ok (.iconst 0, 1) := by decide +kernel
theorem dX6_undo_13 : decode cX6_undo 13 = .ok (.putfield 47, 3) := by decide +kernel
theorem dX6_undo_16 : decode cX6_undo 16 = .ok (.aload_n 0, 1) := by decide +kernel
theorem dX6_undo_17 : decode cX6_undo 17 = .ok (.getfield 47, 3) := by decide +kernel
theorem dX6_undo_20 : decode cX6_undo 20 = .ok (.ifCond .eq 5, 3) := by decide +kernel
theorem dX6_undo_23 : decode cX6_undo 23 = .ok (.iconst 0, 1) := by decide +kernel
theorem dX6_undo_24 : decode cX6_undo 24 = .ok (.ireturn, 1) := by decide +kernel
theorem dX6_undo_25 : decode cX6_undo 25 = .ok (.aload_n 0, 1) := by decide +kernel
theorem dX6_undo_26 : decode cX6_undo 26 = .ok (.dup, 1) := by decide +kernel
theorem dX6_undo_27 : decode cX6_undo 27 = .ok (.getfield 54, 3) := by decide +kernel
theorem dX6_undo_30 : decode cX6_undo 30 = .ok (.iconst 1, 1) := by decide +kernel
theorem dX6_undo_31 : decode cX6_undo 31 = .ok (.isub, 1) := by decide +kernel
theorem dX6_undo_32 : decode cX6_undo 32 = .ok (.putfield 54, 3) := by decide +kernel
theorem dX6_undo_35 : decode cX6_undo 35 = .ok (.iconst 0, 1) := by decide +kernel
theorem dX6_undo_36 : decode cX6_undo 36 = .ok (.istore_n 1, 1) := by decide +kernel
theorem dX6_undo_37 : decode cX6_undo 37 = .ok (.iload_n 1, 1) := by decide +kernel
theorem dX6_undo_38 : decode cX6_undo 38 = .ok (.bipush 109, 2) := by decide +kernel
theorem dX6_undo_40 : decode cX6_undo 40 = .ok (.if_icmp .ge 29, 3) := by decide +kernel
theorem dX6_undo_43 : decode cX6_undo 43 = .ok (.aload_n 0, 1) := by decide +kernel
theorem dX6_undo_44 : decode cX6_undo 44 = .ok (.getfield 16, 3) := by decide +kernel
theorem dX6_undo_47 : decode cX6_undo 47 = .ok (.iload_n 1, 1) := by decide +kernel
theorem dX6_undo_48 : decode cX6_undo 48 = .ok (.aload_n 0, 1) := by decide +kernel
theorem dX6_undo_49 : decode cX6_undo 49 = .ok (.getfield 29, 3) := by decide +kernel
theorem dX6_undo_52 : decode cX6_undo 52 = .ok (.aload_n 0, 1) := by decide +kernel
theorem dX6_undo_53 : decode cX6_undo 53 = .ok (.getfield 54, 3) := by decide +kernel
theorem dX6_undo_56 : decode cX6_undo 56 = .ok (.bipush 109, 2) := by decide +kernel
theorem dX6_undo_58 : decode cX6_undo 58 = .ok (.imul, 1) := by decide +kernel
theorem dX6_undo_59 : decode cX6_undo 59 = .ok (.iload_n 1, 1) := by decide +kernel
theorem dX6_undo_60 : decode cX6_undo 60 = .ok (.iadd, 1) := by decide +kernel
theorem dX6_undo_61 : decode cX6_undo 61 = .ok (.iaload, 1) := by decide +kernel
theorem dX6_undo_62 : decode cX6_undo 62 = .ok (.iastore, 1) := by decide +kernel
theorem dX6_undo_63 : decode cX6_undo 63 = .ok (.iinc 1 1, 3) := by decide +kernel
theorem dX6_undo_66 : decode cX6_undo 66 = .ok (.goto (-29), 3) := by decide +kernel
theorem dX6_undo_69 : decode cX6_undo 69 = .ok (.aload_n 0, 1) := by decide +kernel
theorem dX6_undo_70 : decode cX6_undo 70 = .ok (.getfield 54, 3) := by decide +kernel
theorem dX6_undo_73 : decode cX6_undo 73 = .ok (.ireturn, 1) := by decide +kernel
theorem dX6_save_0 : decode cX6_save 0 = .ok (.aload_n 0, 1) := by decide +kernel
theorem dX6_save_1 : decode cX6_save 1 = .ok (.iconst 0, 1) := by decide +kernel
theorem dX6_save_2 : decode cX6_save 2 = .ok (.putfield 47, 3) := by decide +kernel
theorem dX6_save_5 : decode cX6_save 5 = .ok (.aload_n 0, 1) := by decide +kernel
theorem dX6_save_6 : decode cX6_save 6 = .ok (.getfield 23, 3) := by decide +kernel
theorem dX6_save_9 : decode cX6_save 9 = .ok (.aload_n 0, 1) := by decide +kernel
theorem dX6_save_10 : decode cX6_save 10 = .ok (.getfield 16, 3) := by decide +kernel
theorem dX6_save_13 : decode cX6_save 13 = .ok (.invokestatic 50, 3) := by decide +kernel
theorem dX6_save_16 : decode cX6_save 16 = .ok (.aload_n 0, 1) := by decide +kernel
theorem dX6_save_17 : decode cX6_save 17 = .ok (.iconst 1, 1) := by decide +kernel
theorem dX6_save_18 : decode cX6_save 18 = .ok (.putfield 217, 3) := by decide +kernel
theorem dX6_save_21 : decode cX6_save 21 = .ok (.aload_n 0, 1) := by decide +kernel
theorem dX6_save_22 : decode cX6_save 22 = .ok (.getfield 16, 3) := by decide +kernel
theorem dX6_save_25 : decode cX6_save 25 = .ok (.iconst 0, 1) := by decide +kernel
theorem dX6_save_26 : decode cX6_save 26 = .ok (.iaload, 1) := by decide +kernel
theorem dX6_save_27 : decode cX6_save 27 = .ok (.ireturn, 1) := by decide +kernel
theorem dX6_restore_0 : decode cX6_restore 0 = .ok (.aload_n 0, 1) := by decide +kernel
theorem dX6_restore_1 : decode cX6_restore 1 = .ok (.aload_n 0, 1) := by decide +kernel
theorem dX6_restore_2 : decode cX6_restore 2 = .ok (.getfield 217, 3) := by decide +kernel
theorem dX6_restore_5 : decode cX6_restore 5 = .ok (.ifCond .eq 7, 3) := by decide +kernel
theorem dX6_restore_8 : decode cX6_restore 8 = .ok (.iconst 0, 1) := by decide +kernel
theorem dX6_restore_9 : decode cX6_restore 9 = .ok (.goto 4, 3) := by decide +kernel
theorem dX6_restore_12 : decode cX6_restore 12 = .ok (.iconst 1, 1) := by decide +kernel
theorem dX6_restore_13 : decode cX6_restore 13 = .ok (.putfield 47, 3) := by decide +kernel
theorem dX6_restore_16 : decode cX6_restore 16 = .ok (.aload_n 0, 1) := by decide +kernel
theorem dX6_restore_17 : decode cX6_restore 17 = .ok (.getfield 47, 3) := by decide +kernel
theorem dX6_restore_20 : decode cX6_restore 20 = .ok (.ifCond .eq 5, 3) := by decide +kernel
theorem dX6_restore_23 : decode cX6_restore 23 = .ok (.iconst 0, 1) := by decide +kernel
theorem dX6_restore_24 : decode cX6_restore 24 = .ok (.ireturn, 1) := by decide +kernel
theorem dX6_restore_25 : decode cX6_restore 25 = .ok (.aload_n 0, 1) := by decide +kernel
theorem dX6_restore_26 : decode cX6_restore 26 = .ok (.getfield 16, 3) := by decide +kernel
theorem dX6_restore_29 : decode cX6_restore 29 = .ok (.aload_n 0, 1) := by decide +kernel
theorem dX6_restore_30 : decode cX6_restore 30 = .ok (.getfield 23, 3) := by decide +kernel
theorem dX6_restore_33 : decode cX6_restore 33 = .ok (.invokestatic 50, 3) := by decide +kernel
theorem dX6_restore_36 : decode cX6_restore 36 = .ok (.aload_n 0, 1) := by decide +kernel
theorem dX6_restore_37 : decode cX6_restore 37 = .ok (.iconst 0, 1) := by decide +kernel
theorem dX6_restore_38 : decode cX6_restore 38 = .ok (.putfield 54, 3) := by decide +kernel
theorem dX6_restore_41 : decode cX6_restore 41 = .ok (.aload_n 0, 1) := by decide +kernel
theorem dX6_restore_42 : decode cX6_restore 42 = .ok (.getfield 16, 3) := by decide +kernel
theorem dX6_restore_45 : decode cX6_restore 45 = .ok (.iconst 0, 1) := by decide +kernel
theorem dX6_restore_46 : decode cX6_restore 46 = .ok (.iaload, 1) := by decide +kernel
theorem dX6_restore_47 : decode cX6_restore 47 = .ok (.ireturn, 1) := by decide +kernel
