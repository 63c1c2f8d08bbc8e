theorem d_Law_law_0 : decode code 0 = .ok (.new 7, 3) := by decide +kernel
theorem d_Law_law_3 : decode code 3 = .ok (.dup, 1) := by decide +kernel
theorem d_Law_law_4 : decode code 4 = .ok (.invokespecial 9, 3) := by decide +kernel
theorem d_Law_law_7 : decode code 7 = .ok (.astore_n 1, 1) := by decide +kernel
theorem d_Law_law_8 : decode code 8 = .ok (.new 10, 3) := by decide +kernel
theorem d_Law_law_11 : decode code 11 = .ok (.dup, 1) := by decide +kernel
theorem d_Law_law_12 : decode code 12 = .ok (.invokespecial 12, 3) := by decide +kernel
theorem d_Law_law_15 : decode code 15 = .ok (.astore_n 2, 1) := by decide +kernel
theorem d_Law_law_16 : decode code 16 = .ok (.iconst 0, 1) := by decide +kernel
theorem d_Law_law_17 : decode code 17 = .ok (.istore_n 3, 1) := by decide +kernel
theorem d_Law_law_18 : decode code 18 = .ok (.iload_n 3, 1) := by decide +kernel
theorem d_Law_law_19 : decode code 19 = .ok (.aload_n 0, 1) := by decide +kernel
theorem d_Law_law_20 : decode code 20 = .ok (.arraylength, 1) := by decide +kernel
theorem d_Law_law_21 : decode code 21 = .ok (.bipush 8, 2) := by decide +kernel
theorem d_Law_law_23 : decode code 23 = .ok (.isub, 1) := by decide +kernel
theorem d_Law_law_24 : decode code 24 = .ok (.if_icmp .gt 819, 3) := by decide +kernel
theorem d_Law_law_27 : decode code 27 = .ok (.aload_n 0, 1) := by decide +kernel
theorem d_Law_law_28 : decode code 28 = .ok (.iload_n 3, 1) := by decide +kernel
theorem d_Law_law_29 : decode code 29 = .ok (.iaload, 1) := by decide +kernel
theorem d_Law_law_30 : decode code 30 = .ok (.bipush 15, 2) := by decide +kernel
theorem d_Law_law_32 : decode code 32 = .ok (.iand, 1) := by decide +kernel
theorem d_Law_law_33 : decode code 33 = .ok (.tableswitch 804 0 14 #[75, 158, 191, 204, 217, 344, 367, 390, 413, 476, 499, 626, 639, 662, 781], 75) := by decide +kernel
theorem d_Law_law_108 : decode code 108 = .ok (.aload_n 1, 1) := by decide +kernel
theorem d_Law_law_109 : decode code 109 = .ok (.aload_n 0, 1) := by decide +kernel
theorem d_Law_law_110 : decode code 110 = .ok (.iload_n 3, 1) := by decide +kernel
theorem d_Law_law_111 : decode code 111 = .ok (.iconst 1, 1) := by decide +kernel
theorem d_Law_law_112 : decode code 112 = .ok (.iadd, 1) := by decide +kernel
theorem d_Law_law_113 : decode code 113 = .ok (.iaload, 1) := by decide +kernel
theorem d_Law_law_114 : decode code 114 = .ok (.aload_n 0, 1) := by decide +kernel
theorem d_Law_law_115 : decode code 115 = .ok (.iload_n 3, 1) := by decide +kernel
theorem d_Law_law_116 : decode code 116 = .ok (.iconst 2, 1) := by decide +kernel
theorem d_Law_law_117 : decode code 117 = .ok (.iadd, 1) := by decide +kernel
theorem d_Law_law_118 : decode code 118 = .ok (.iaload, 1) := by decide +kernel
theorem d_Law_law_119 : decode code 119 = .ok (.aload_n 0, 1) := by decide +kernel
theorem d_Law_law_120 : decode code 120 = .ok (.iload_n 3, 1) := by decide +kernel
theorem d_Law_law_121 : decode code 121 = .ok (.iconst 3, 1) := by decide +kernel
theorem d_Law_law_122 : decode code 122 = .ok (.iadd, 1) := by decide +kernel
theorem d_Law_law_123 : decode code 123 = .ok (.iaload, 1) := by decide +kernel
theorem d_Law_law_124 : decode code 124 = .ok (.i2l, 1) := by decide +kernel
theorem d_Law_law_125 : decode code 125 = .ok (.bipush 32, 2) := by decide +kernel
theorem d_Law_law_127 : decode code 127 = .ok (.lshl, 1) := by decide +kernel
theorem d_Law_law_128 : decode code 128 = .ok (.aload_n 0, 1) := by decide +kernel
theorem d_Law_law_129 : decode code 129 = .ok (.iload_n 3, 1) := by decide +kernel
theorem d_Law_law_130 : decode code 130 = .ok (.iconst 4, 1) := by decide +kernel
theorem d_Law_law_131 : decode code 131 = .ok (.iadd, 1) := by decide +kernel
theorem d_Law_law_132 : decode code 132 = .ok (.iaload, 1) := by decide +kernel
theorem d_Law_law_133 : decode code 133 = .ok (.i2l, 1) := by decide +kernel
theorem d_Law_law_134 : decode code 134 = .ok (.ldc2_w 13, 3) := by decide +kernel
theorem d_Law_law_137 : decode code 137 = .ok (.land, 1) := by decide +kernel
theorem d_Law_law_138 : decode code 138 = .ok (.lor, 1) := by decide +kernel
theorem d_Law_law_139 : decode code 139 = .ok (.aload_n 0, 1) := by decide +kernel
theorem d_Law_law_140 : decode code 140 = .ok (.iload_n 3, 1) := by decide +kernel
theorem d_Law_law_141 : decode code 141 = .ok (.iconst 5, 1) := by decide +kernel
theorem d_Law_law_142 : decode code 142 = .ok (.iadd, 1) := by decide +kernel
theorem d_Law_law_143 : decode code 143 = .ok (.iaload, 1) := by decide +kernel
theorem d_Law_law_144 : decode code 144 = .ok (.invokevirtual 15, 3) := by decide +kernel
theorem d_Law_law_147 : decode code 147 = .ok (.aload_n 2, 1) := by decide +kernel
theorem d_Law_law_148 : decode code 148 = .ok (.aload_n 0, 1) := by decide +kernel
theorem d_Law_law_149 : decode code 149 = .ok (.iload_n 3, 1) := by decide +kernel
theorem d_Law_law_150 : decode code 150 = .ok (.iconst 1, 1) := by decide +kernel
theorem d_Law_law_151 : decode code 151 = .ok (.iadd, 1) := by decide +kernel
theorem d_Law_law_152 : decode code 152 = .ok (.iaload, 1) := by decide +kernel
theorem d_Law_law_153 : decode code 153 = .ok (.aload_n 0, 1) := by decide +kernel
theorem d_Law_law_154 : decode code 154 = .ok (.iload_n 3, 1) := by decide +kernel
theorem d_Law_law_155 : decode code 155 = .ok (.iconst 2, 1) := by decide +kernel
theorem d_Law_law_156 : decode code 156 = .ok (.iadd, 1) := by decide +kernel
theorem d_Law_law_157 : decode code 157 = .ok (.iaload, 1) := by decide +kernel
theorem d_Law_law_158 : decode code 158 = .ok (.aload_n 0, 1) := by decide +kernel
theorem d_Law_law_159 : decode code 159 = .ok (.iload_n 3, 1) := by decide +kernel
theorem d_Law_law_160 : decode code 160 = .ok (.iconst 3, 1) := by decide +kernel
theorem d_Law_law_161 : decode code 161 = .ok (.iadd, 1) := by decide +kernel
theorem d_Law_law_162 : decode code 162 = .ok (.iaload, 1) := by decide +kernel
theorem d_Law_law_163 : decode code 163 = .ok (.i2l, 1) := by decide +kernel
theorem d_Law_law_164 : decode code 164 = .ok (.bipush 32, 2) := by decide +kernel
theorem d_Law_law_166 : decode code 166 = .ok (.lshl, 1) := by decide +kernel
theorem d_Law_law_167 : decode code 167 = .ok (.aload_n 0, 1) := by decide +kernel
theorem d_Law_law_168 : decode code 168 = .ok (.iload_n 3, 1) := by decide +kernel
theorem d_Law_law_169 : decode code 169 = .ok (.iconst 4, 1) := by decide +kernel
theorem d_Law_law_170 : decode code 170 = .ok (.iadd, 1) := by decide +kernel
theorem d_Law_law_171 : decode code 171 = .ok (.iaload, 1) := by decide +kernel
theorem d_Law_law_172 : decode code 172 = .ok (.i2l, 1) := by decide +kernel
theorem d_Law_law_173 : decode code 173 = .ok (.ldc2_w 13, 3) := by decide +kernel
theorem d_Law_law_176 : decode code 176 = .ok (.land, 1) := by decide +kernel
theorem d_Law_law_177 : decode code 177 = .ok (.lor, 1) := by decide +kernel
theorem d_Law_law_178 : decode code 178 = .ok (.aload_n 0, 1) := by decide +kernel
theorem d_Law_law_179 : decode code 179 = .ok (.iload_n 3, 1) := by decide +kernel
theorem d_Law_law_180 : decode code 180 = .ok (.iconst 5, 1) := by decide +kernel
theorem d_Law_law_181 : decode code 181 = .ok (.iadd, 1) := by decide +kernel
theorem d_Law_law_182 : decode code 182 = .ok (.iaload, 1) := by decide +kernel
theorem d_Law_law_183 : decode code 183 = .ok (.invokevirtual 19, 3) := by decide +kernel
theorem d_Law_law_186 : decode code 186 = .ok (.if_icmp .eq 651, 3) := by decide +kernel
theorem d_Law_law_189 : decode code 189 = .ok (.iconst 0, 1) := by decide +kernel
theorem d_Law_law_190 : decode code 190 = .ok (.ireturn, 1) := by decide +kernel
theorem d_Law_law_191 : decode code 191 = .ok (.aload_n 1, 1) := by decide +kernel
theorem d_Law_law_192 : decode code 192 = .ok (.aload_n 0, 1) := by decide +kernel
theorem d_Law_law_193 : decode code 193 = .ok (.iload_n 3, 1) := by decide +kernel
theorem d_Law_law_194 : decode code 194 = .ok (.iconst 1, 1) := by decide +kernel
theorem d_Law_law_195 : decode code 195 = .ok (.iadd, 1) := by decide +kernel
theorem d_Law_law_196 : decode code 196 = .ok (.iaload, 1) := by decide +kernel
theorem d_Law_law_197 : decode code 197 = .ok (.aload_n 0, 1) := by decide +kernel
theorem d_Law_law_198 : decode code 198 = .ok (.iload_n 3, 1) := by decide +kernel
theorem d_Law_law_199 : decode code 199 = .ok (.iconst 2, 1) := by decide +kernel
theorem d_Law_law_200 : decode code 200 = .ok (.iadd, 1) := by decide +kernel
theorem d_Law_law_201 : decode code 201 = .ok (.iaload, 1) := by decide +kernel
theorem d_Law_law_202 : decode code 202 = .ok (.invokevirtual 20, 3) := by decide +kernel
theorem d_Law_law_205 : decode code 205 = .ok (.aload_n 2, 1) := by decide +kernel
theorem d_Law_law_206 : decode code 206 = .ok (.aload_n 0, 1) := by decide +kernel
theorem d_Law_law_207 : decode code 207 = .ok (.iload_n 3, 1) := by decide +kernel
theorem d_Law_law_208 : decode code 208 = .ok (.iconst 1, 1) := by decide +kernel
theorem d_Law_law_209 : decode code 209 = .ok (.iadd, 1) := by decide +kernel
theorem d_Law_law_210 : decode code 210 = .ok (.iaload, 1) := by decide +kernel
theorem d_Law_law_211 : decode code 211 = .ok (.aload_n 0, 1) := by decide +kernel
theorem d_Law_law_212 : decode code 212 = .ok (.iload_n 3, 1) := by decide +kernel
theorem d_Law_law_213 : decode code 213 = .ok (.iconst 2, 1) := by decide +kernel
theorem d_Law_law_214 : decode code 214 = .ok (.iadd, 1) := by decide +kernel
theorem d_Law_law_215 : decode code 215 = .ok (.iaload, 1) := by decide +kernel
theorem d_Law_law_216 : decode code 216 = .ok (.invokevirtual 24, 3) := by decide +kernel
theorem d_Law_law_219 : decode code 219 = .ok (.if_icmp .eq 618, 3) := by decide +kernel
theorem d_Law_law_222 : decode code 222 = .ok (.iconst 0, 1) := by decide +kernel
theorem d_Law_law_223 : decode code 223 = .ok (.ireturn, 1) := by decide +kernel
theorem d_Law_law_224 : decode code 224 = .ok (.aload_n 1, 1) := by decide +kernel
theorem d_Law_law_225 : decode code 225 = .ok (.invokevirtual 25, 3) := by decide +kernel
theorem d_Law_law_228 : decode code 228 = .ok (.aload_n 2, 1) := by decide +kernel
theorem d_Law_law_229 : decode code 229 = .ok (.invokevirtual 29, 3) := by decide +kernel
theorem d_Law_law_232 : decode code 232 = .ok (.if_icmp .eq 605, 3) := by decide +kernel
theorem d_Law_law_235 : decode code 235 = .ok (.iconst 0, 1) := by decide +kernel
theorem d_Law_law_236 : decode code 236 = .ok (.ireturn, 1) := by decide +kernel
theorem d_Law_law_237 : decode code 237 = .ok (.aload_n 1, 1) := by decide +kernel
theorem d_Law_law_238 : decode code 238 = .ok (.invokevirtual 30, 3) := by decide +kernel
theorem d_Law_law_241 : decode code 241 = .ok (.aload_n 2, 1) := by decide +kernel
theorem d_Law_law_242 : decode code 242 = .ok (.invokevirtual 34, 3) := by decide +kernel
theorem d_Law_law_245 : decode code 245 = .ok (.if_icmp .eq 592, 3) := by decide +kernel
theorem d_Law_law_248 : decode code 248 = .ok (.iconst 0, 1) := by decide +kernel
theorem d_Law_law_249 : decode code 249 = .ok (.ireturn, 1) := by decide +kernel
theorem d_Law_law_250 : decode code 250 = .ok (.aload_n 1, 1) := by decide +kernel
theorem d_Law_law_251 : decode code 251 = .ok (.aload_n 0, 1) := by decide +kernel
theorem d_Law_law_252 : decode code 252 = .ok (.iload_n 3, 1) := by decide +kernel
theorem d_Law_law_253 : decode code 253 = .ok (.iconst 1, 1) := by decide +kernel
theorem d_Law_law_254 : decode code 254 = .ok (.iadd, 1) := by decide +kernel
theorem d_Law_law_255 : decode code 255 = .ok (.iaload, 1) := by decide +kernel
theorem d_Law_law_256 : decode code 256 = .ok (.aload_n 0, 1) := by decide +kernel
theorem d_Law_law_257 : decode code 257 = .ok (.iload_n 3, 1) := by decide +kernel
theorem d_Law_law_258 : decode code 258 = .ok (.iconst 2, 1) := by decide +kernel
theorem d_Law_law_259 : decode code 259 = .ok (.iadd, 1) := by decide +kernel
theorem d_Law_law_260 : decode code 260 = .ok (.iaload, 1) := by decide +kernel
theorem d_Law_law_261 : decode code 261 = .ok (.aload_n 0, 1) := by decide +kernel
theorem d_Law_law_262 : decode code 262 = .ok (.iload_n 3, 1) := by decide +kernel
theorem d_Law_law_263 : decode code 263 = .ok (.iconst 3, 1) := by decide +kernel
theorem d_Law_law_264 : decode code 264 = .ok (.iadd, 1) := by decide +kernel
theorem d_Law_law_265 : decode code 265 = .ok (.iaload, 1) := by decide +kernel
theorem d_Law_law_266 : decode code 266 = .ok (.i2l, 1) := by decide +kernel
theorem d_Law_law_267 : decode code 267 = .ok (.bipush 32, 2) := by decide +kernel
theorem d_Law_law_269 : decode code 269 = .ok (.lshl, 1) := by decide +kernel
theorem d_Law_law_270 : decode code 270 = .ok (.aload_n 0, 1) := by decide +kernel
theorem d_Law_law_271 : decode code 271 = .ok (.iload_n 3, 1) := by decide +kernel
theorem d_Law_law_272 : decode code 272 = .ok (.iconst 4, 1) := by decide +kernel
theorem d_Law_law_273 : decode code 273 = .ok (.iadd, 1) := by decide +kernel
theorem d_Law_law_274 : decode code 274 = .ok (.iaload, 1) := by decide +kernel
theorem d_Law_law_275 : decode code 275 = .ok (.i2l, 1) := by decide +kernel
theorem d_Law_law_276 : decode code 276 = .ok (.ldc2_w 13, 3) := by decide +kernel
theorem d_Law_law_279 : decode code 279 = .ok (.land, 1) := by decide +kernel
theorem d_Law_law_280 : decode code 280 = .ok (.lor, 1) := by decide +kernel
theorem d_Law_law_281 : decode code 281 = .ok (.aload_n 0, 1) := by decide +kernel
theorem d_Law_law_282 : decode code 282 = .ok (.iload_n 3, 1) := by decide +kernel
theorem d_Law_law_283 : decode code 283 = .ok (.iconst 5, 1) := by decide +kernel
theorem d_Law_law_284 : decode code 284 = .ok (.iadd, 1) := by decide +kernel
theorem d_Law_law_285 : decode code 285 = .ok (.iaload, 1) := by decide +kernel
theorem d_Law_law_286 : decode code 286 = .ok (.i2l, 1) := by decide +kernel
theorem d_Law_law_287 : decode code 287 = .ok (.bipush 32, 2) := by decide +kernel
theorem d_Law_law_289 : decode code 289 = .ok (.lshl, 1) := by decide +kernel
theorem d_Law_law_290 : decode code 290 = .ok (.aload_n 0, 1) := by decide +kernel
theorem d_Law_law_291 : decode code 291 = .ok (.iload_n 3, 1) := by decide +kernel
theorem d_Law_law_292 : decode code 292 = .ok (.bipush 6, 2) := by decide +kernel
theorem d_Law_law_294 : decode code 294 = .ok (.iadd, 1) := by decide +kernel
theorem d_Law_law_295 : decode code 295 = .ok (.iaload, 1) := by decide +kernel
theorem d_Law_law_296 : decode code 296 = .ok (.i2l, 1) := by decide +kernel
theorem d_Law_law_297 : decode code 297 = .ok (.ldc2_w 13, 3) := by decide +kernel
theorem d_Law_law_300 : decode code 300 = .ok (.land, 1) := by decide +kernel
theorem d_Law_law_301 : decode code 301 = .ok (.lor, 1) := by decide +kernel
theorem d_Law_law_302 : decode code 302 = .ok (.aload_n 0, 1) := by decide +kernel
theorem d_Law_law_303 : decode code 303 = .ok (.iload_n 3, 1) := by decide +kernel
theorem d_Law_law_304 : decode code 304 = .ok (.bipush 7, 2) := by decide +kernel
theorem d_Law_law_306 : decode code 306 = .ok (.iadd, 1) := by decide +kernel
theorem d_Law_law_307 : decode code 307 = .ok (.iaload, 1) := by decide +kernel
theorem d_Law_law_308 : decode code 308 = .ok (.invokevirtual 35, 3) := by decide +kernel
theorem d_Law_law_311 : decode code 311 = .ok (.aload_n 2, 1) := by decide +kernel
theorem d_Law_law_312 : decode code 312 = .ok (.aload_n 0, 1) := by decide +kernel
theorem d_Law_law_313 : decode code 313 = .ok (.iload_n 3, 1) := by decide +kernel
theorem d_Law_law_314 : decode code 314 = .ok (.iconst 1, 1) := by decide +kernel
theorem d_Law_law_315 : decode code 315 = .ok (.iadd, 1) := by decide +kernel
theorem d_Law_law_316 : decode code 316 = .ok (.iaload, 1) := by decide +kernel
theorem d_Law_law_317 : decode code 317 = .ok (.aload_n 0, 1) := by decide +kernel
theorem d_Law_law_318 : decode code 318 = .ok (.iload_n 3, 1) := by decide +kernel
theorem d_Law_law_319 : decode code 319 = .ok (.iconst 2, 1) := by decide +kernel
theorem d_Law_law_320 : decode code 320 = .ok (.iadd, 1) := by decide +kernel
theorem d_Law_law_321 : decode code 321 = .ok (.iaload, 1) := by decide +kernel
theorem d_Law_law_322 : decode code 322 = .ok (.aload_n 0, 1) := by decide +kernel
theorem d_Law_law_323 : decode code 323 = .ok (.iload_n 3, 1) := by decide +kernel
theorem d_Law_law_324 : decode code 324 = .ok (.iconst 3, 1) := by decide +kernel
theorem d_Law_law_325 : decode code 325 = .ok (.iadd, 1) := by decide +kernel
theorem d_Law_law_326 : decode code 326 = .ok (.iaload, 1) := by decide +kernel
theorem d_Law_law_327 : decode code 327 = .ok (.i2l, 1) := by decide +kernel
theorem d_Law_law_328 : decode code 328 = .ok (.bipush 32, 2) := by decide +kernel
theorem d_Law_law_330 : decode code 330 = .ok (.lshl, 1) := by decide +kernel
theorem d_Law_law_331 : decode code 331 = .ok (.aload_n 0, 1) := by decide +kernel
theorem d_Law_law_332 : decode code 332 = .ok (.iload_n 3, 1) := by decide +kernel
theorem d_Law_law_333 : decode code 333 = .ok (.iconst 4, 1) := by decide +kernel
theorem d_Law_law_334 : decode code 334 = .ok (.iadd, 1) := by decide +kernel
theorem d_Law_law_335 : decode code 335 = .ok (.iaload, 1) := by decide +kernel
theorem d_Law_law_336 : decode code 336 = .ok (.i2l, 1) := by decide +kernel
theorem d_Law_law_337 : decode code 337 = .ok (.ldc2_w 13, 3) := by decide +kernel
theorem d_Law_law_340 : decode code 340 = .ok (.land, 1) := by decide +kernel
theorem d_Law_law_341 : decode code 341 = .ok (.lor, 1) := by decide +kernel
theorem d_Law_law_342 : decode code 342 = .ok (.aload_n 0, 1) := by decide +kernel
theorem d_Law_law_343 : decode code 343 = .ok (.iload_n 3, 1) := by decide +kernel
theorem d_Law_law_344 : decode code 344 = .ok (.iconst 5, 1) := by decide +kernel
theorem d_Law_law_345 : decode code 345 = .ok (.iadd, 1) := by decide +kernel
theorem d_Law_law_346 : decode code 346 = .ok (.iaload, 1) := by decide +kernel
theorem d_Law_law_347 : decode code 347 = .ok (.i2l, 1) := by decide +kernel
theorem d_Law_law_348 : decode code 348 = .ok (.bipush 32, 2) := by decide +kernel
theorem d_Law_law_350 : decode code 350 = .ok (.lshl, 1) := by decide +kernel
theorem d_Law_law_351 : decode code 351 = .ok (.aload_n 0, 1) := by decide +kernel
theorem d_Law_law_352 : decode code 352 = .ok (.iload_n 3, 1) := by decide +kernel
theorem d_Law_law_353 : decode code 353 = .ok (.bipush 6, 2) := by decide +kernel
theorem d_Law_law_355 : decode code 355 = .ok (.iadd, 1) := by decide +kernel
theorem d_Law_law_356 : decode code 356 = .ok (.iaload, 1) := by decide +kernel
theorem d_Law_law_357 : decode code 357 = .ok (.i2l, 1) := by decide +kernel
theorem d_Law_law_358 : decode code 358 = .ok (.ldc2_w 13, 3) := by decide +kernel
theorem d_Law_law_361 : decode code 361 = .ok (.land, 1) := by decide +kernel
theorem d_Law_law_362 : decode code 362 = .ok (.lor, 1) := by decide +kernel
theorem d_Law_law_363 : decode code 363 = .ok (.aload_n 0, 1) := by decide +kernel
theorem d_Law_law_364 : decode code 364 = .ok (.iload_n 3, 1) := by decide +kernel
theorem d_Law_law_365 : decode code 365 = .ok (.bipush 7, 2) := by decide +kernel
theorem d_Law_law_367 : decode code 367 = .ok (.iadd, 1) := by decide +kernel
theorem d_Law_law_368 : decode code 368 = .ok (.iaload, 1) := by decide +kernel
theorem d_Law_law_369 : decode code 369 = .ok (.invokevirtual 39, 3) := by decide +kernel
theorem d_Law_law_372 : decode code 372 = .ok (.if_icmp .eq 465, 3) := by decide +kernel
theorem d_Law_law_375 : decode code 375 = .ok (.iconst 0, 1) := by decide +kernel
theorem d_Law_law_376 : decode code 376 = .ok (.ireturn, 1) := by decide +kernel
theorem d_Law_law_377 : decode code 377 = .ok (.aload_n 1, 1) := by decide +kernel
theorem d_Law_law_378 : decode code 378 = .ok (.aload_n 0, 1) := by decide +kernel
theorem d_Law_law_379 : decode code 379 = .ok (.iload_n 3, 1) := by decide +kernel
theorem d_Law_law_380 : decode code 380 = .ok (.iconst 1, 1) := by decide +kernel
theorem d_Law_law_381 : decode code 381 = .ok (.iadd, 1) := by decide +kernel
theorem d_Law_law_382 : decode code 382 = .ok (.iaload, 1) := by decide +kernel
theorem d_Law_law_383 : decode code 383 = .ok (.invokevirtual 40, 3) := by decide +kernel
theorem d_Law_law_386 : decode code 386 = .ok (.aload_n 2, 1) := by decide +kernel
theorem d_Law_law_387 : decode code 387 = .ok (.aload_n 0, 1) := by decide +kernel
theorem d_Law_law_388 : decode code 388 = .ok (.iload_n 3, 1) := by decide +kernel
theorem d_Law_law_389 : decode code 389 = .ok (.iconst 1, 1) := by decide +kernel
theorem d_Law_law_390 : decode code 390 = .ok (.iadd, 1) := by decide +kernel
theorem d_Law_law_391 : decode code 391 = .ok (.iaload, 1) := by decide +kernel
theorem d_Law_law_392 : decode code 392 = .ok (.invokevirtual 44, 3) := by decide +kernel
theorem d_Law_law_395 : decode code 395 = .ok (.if_icmp .eq 442, 3) := by decide +kernel
theorem d_Law_law_398 : decode code 398 = .ok (.iconst 0, 1) := by decide +kernel
theorem d_Law_law_399 : decode code 399 = .ok (.ireturn, 1) := by decide +kernel
theorem d_Law_law_400 : decode code 400 = .ok (.aload_n 1, 1) := by decide +kernel
theorem d_Law_law_401 : decode code 401 = .ok (.aload_n 0, 1) := by decide +kernel
theorem d_Law_law_402 : decode code 402 = .ok (.iload_n 3, 1) := by decide +kernel
theorem d_Law_law_403 : decode code 403 = .ok (.iconst 1, 1) := by decide +kernel
theorem d_Law_law_404 : decode code 404 = .ok (.iadd, 1) := by decide +kernel
theorem d_Law_law_405 : decode code 405 = .ok (.iaload, 1) := by decide +kernel
theorem d_Law_law_406 : decode code 406 = .ok (.invokevirtual 45, 3) := by decide +kernel
theorem d_Law_law_409 : decode code 409 = .ok (.aload_n 2, 1) := by decide +kernel
theorem d_Law_law_410 : decode code 410 = .ok (.aload_n 0, 1) := by decide +kernel
theorem d_Law_law_411 : decode code 411 = .ok (.iload_n 3, 1) := by decide +kernel
theorem d_Law_law_412 : decode code 412 = .ok (.iconst 1, 1) := by decide +kernel
theorem d_Law_law_413 : decode code 413 = .ok (.iadd, 1) := by decide +kernel
theorem d_Law_law_414 : decode code 414 = .ok (.iaload, 1) := by decide +kernel
theorem d_Law_law_415 : decode code 415 = .ok (.invokevirtual 48, 3) := by decide +kernel
theorem d_Law_law_418 : decode code 418 = .ok (.if_icmp .eq 419, 3) := by decide +kernel
theorem d_Law_law_421 : decode code 421 = .ok (.iconst 0, 1) := by decide +kernel
theorem d_Law_law_422 : decode code 422 = .ok (.ireturn, 1) := by decide +kernel
theorem d_Law_law_423 : decode code 423 = .ok (.aload_n 1, 1) := by decide +kernel
theorem d_Law_law_424 : decode code 424 = .ok (.aload_n 0, 1) := by decide +kernel
theorem d_Law_law_425 : decode code 425 = .ok (.iload_n 3, 1) := by decide +kernel
theorem d_Law_law_426 : decode code 426 = .ok (.iconst 1, 1) := by decide +kernel
theorem d_Law_law_427 : decode code 427 = .ok (.iadd, 1) := by decide +kernel
theorem d_Law_law_428 : decode code 428 = .ok (.iaload, 1) := by decide +kernel
theorem d_Law_law_429 : decode code 429 = .ok (.invokevirtual 49, 3) := by decide +kernel
theorem d_Law_law_432 : decode code 432 = .ok (.aload_n 2, 1) := by decide +kernel
theorem d_Law_law_433 : decode code 433 = .ok (.aload_n 0, 1) := by decide +kernel
theorem d_Law_law_434 : decode code 434 = .ok (.iload_n 3, 1) := by decide +kernel
theorem d_Law_law_435 : decode code 435 = .ok (.iconst 1, 1) := by decide +kernel
theorem d_Law_law_436 : decode code 436 = .ok (.iadd, 1) := by decide +kernel
theorem d_Law_law_437 : decode code 437 = .ok (.iaload, 1) := by decide +kernel
theorem d_Law_law_438 : decode code 438 = .ok (.invokevirtual 53, 3) := by decide +kernel
theorem d_Law_law_441 : decode code 441 = .ok (.if_icmp .eq 396, 3) := by decide +kernel
theorem d_Law_law_444 : decode code 444 = .ok (.iconst 0, 1) := by decide +kernel
theorem d_Law_law_445 : decode code 445 = .ok (.ireturn, 1) := by decide +kernel
theorem d_Law_law_446 : decode code 446 = .ok (.aload_n 1, 1) := by decide +kernel
theorem d_Law_law_447 : decode code 447 = .ok (.aload_n 0, 1) := by decide +kernel
theorem d_Law_law_448 : decode code 448 = .ok (.iload_n 3, 1) := by decide +kernel
theorem d_Law_law_449 : decode code 449 = .ok (.iconst 1, 1) := by decide +kernel
theorem d_Law_law_450 : decode code 450 = .ok (.iadd, 1) := by decide +kernel
theorem d_Law_law_451 : decode code 451 = .ok (.iaload, 1) := by decide +kernel
theorem d_Law_law_452 : decode code 452 = .ok (.aload_n 0, 1) := by decide +kernel
theorem d_Law_law_453 : decode code 453 = .ok (.iload_n 3, 1) := by decide +kernel
theorem d_Law_law_454 : decode code 454 = .ok (.iconst 2, 1) := by decide +kernel
theorem d_Law_law_455 : decode code 455 = .ok (.iadd, 1) := by decide +kernel
theorem d_Law_law_456 : decode code 456 = .ok (.iaload, 1) := by decide +kernel
theorem d_Law_law_457 : decode code 457 = .ok (.i2l, 1) := by decide +kernel
theorem d_Law_law_458 : decode code 458 = .ok (.bipush 32, 2) := by decide +kernel
theorem d_Law_law_460 : decode code 460 = .ok (.lshl, 1) := by decide +kernel
theorem d_Law_law_461 : decode code 461 = .ok (.aload_n 0, 1) := by decide +kernel
theorem d_Law_law_462 : decode code 462 = .ok (.iload_n 3, 1) := by decide +kernel
theorem d_Law_law_463 : decode code 463 = .ok (.iconst 3, 1) := by decide +kernel
theorem d_Law_law_464 : decode code 464 = .ok (.iadd, 1) := by decide +kernel
theorem d_Law_law_465 : decode code 465 = .ok (.iaload, 1) := by decide +kernel
theorem d_Law_law_466 : decode code 466 = .ok (.i2l, 1) := by decide +kernel
theorem d_Law_law_467 : decode code 467 = .ok (.ldc2_w 13, 3) := by decide +kernel
theorem d_Law_law_470 : decode code 470 = .ok (.land, 1) := by decide +kernel
theorem d_Law_law_471 : decode code 471 = .ok (.lor, 1) := by decide +kernel
theorem d_Law_law_472 : decode code 472 = .ok (.invokevirtual 54, 3) := by decide +kernel
theorem d_Law_law_475 : decode code 475 = .ok (.aload_n 2, 1) := by decide +kernel
theorem d_Law_law_476 : decode code 476 = .ok (.aload_n 0, 1) := by decide +kernel
theorem d_Law_law_477 : decode code 477 = .ok (.iload_n 3, 1) := by decide +kernel
theorem d_Law_law_478 : decode code 478 = .ok (.iconst 1, 1) := by decide +kernel
theorem d_Law_law_479 : decode code 479 = .ok (.iadd, 1) := by decide +kernel
theorem d_Law_law_480 : decode code 480 = .ok (.iaload, 1) := by decide +kernel
theorem d_Law_law_481 : decode code 481 = .ok (.aload_n 0, 1) := by decide +kernel
theorem d_Law_law_482 : decode code 482 = .ok (.iload_n 3, 1) := by decide +kernel
theorem d_Law_law_483 : decode code 483 = .ok (.iconst 2, 1) := by decide +kernel
theorem d_Law_law_484 : decode code 484 = .ok (.iadd, 1) := by decide +kernel
theorem d_Law_law_485 : decode code 485 = .ok (.iaload, 1) := by decide +kernel
theorem d_Law_law_486 : decode code 486 = .ok (.i2l, 1) := by decide +kernel
theorem d_Law_law_487 : decode code 487 = .ok (.bipush 32, 2) := by decide +kernel
theorem d_Law_law_489 : decode code 489 = .ok (.lshl, 1) := by decide +kernel
theorem d_Law_law_490 : decode code 490 = .ok (.aload_n 0, 1) := by decide +kernel
theorem d_Law_law_491 : decode code 491 = .ok (.iload_n 3, 1) := by decide +kernel
theorem d_Law_law_492 : decode code 492 = .ok (.iconst 3, 1) := by decide +kernel
theorem d_Law_law_493 : decode code 493 = .ok (.iadd, 1) := by decide +kernel
theorem d_Law_law_494 : decode code 494 = .ok (.iaload, 1) := by decide +kernel
theorem d_Law_law_495 : decode code 495 = .ok (.i2l, 1) := by decide +kernel
theorem d_Law_law_496 : decode code 496 = .ok (.ldc2_w 13, 3) := by decide +kernel
theorem d_Law_law_499 : decode code 499 = .ok (.land, 1) := by decide +kernel
theorem d_Law_law_500 : decode code 500 = .ok (.lor, 1) := by decide +kernel
theorem d_Law_law_501 : decode code 501 = .ok (.invokevirtual 58, 3) := by decide +kernel
theorem d_Law_law_504 : decode code 504 = .ok (.if_icmp .eq 333, 3) := by decide +kernel
theorem d_Law_law_507 : decode code 507 = .ok (.iconst 0, 1) := by decide +kernel
theorem d_Law_law_508 : decode code 508 = .ok (.ireturn, 1) := by decide +kernel
theorem d_Law_law_509 : decode code 509 = .ok (.aload_n 1, 1) := by decide +kernel
theorem d_Law_law_510 : decode code 510 = .ok (.aload_n 0, 1) := by decide +kernel
theorem d_Law_law_511 : decode code 511 = .ok (.iload_n 3, 1) := by decide +kernel
theorem d_Law_law_512 : decode code 512 = .ok (.iconst 1, 1) := by decide +kernel
theorem d_Law_law_513 : decode code 513 = .ok (.iadd, 1) := by decide +kernel
theorem d_Law_law_514 : decode code 514 = .ok (.iaload, 1) := by decide +kernel
theorem d_Law_law_515 : decode code 515 = .ok (.invokevirtual 59, 3) := by decide +kernel
theorem d_Law_law_518 : decode code 518 = .ok (.aload_n 2, 1) := by decide +kernel
theorem d_Law_law_519 : decode code 519 = .ok (.aload_n 0, 1) := by decide +kernel
theorem d_Law_law_520 : decode code 520 = .ok (.iload_n 3, 1) := by decide +kernel
theorem d_Law_law_521 : decode code 521 = .ok (.iconst 1, 1) := by decide +kernel
theorem d_Law_law_522 : decode code 522 = .ok (.iadd, 1) := by decide +kernel
theorem d_Law_law_523 : decode code 523 = .ok (.iaload, 1) := by decide +kernel
theorem d_Law_law_524 : decode code 524 = .ok (.invokevirtual 62, 3) := by decide +kernel
theorem d_Law_law_527 : decode code 527 = .ok (.if_icmp .eq 310, 3) := by decide +kernel
theorem d_Law_law_530 : decode code 530 = .ok (.iconst 0, 1) := by decide +kernel
theorem d_Law_law_531 : decode code 531 = .ok (.ireturn, 1) := by decide +kernel
theorem d_Law_law_532 : decode code 532 = .ok (.aload_n 1, 1) := by decide +kernel
theorem d_Law_law_533 : decode code 533 = .ok (.aload_n 0, 1) := by decide +kernel
theorem d_Law_law_534 : decode code 534 = .ok (.iload_n 3, 1) := by decide +kernel
theorem d_Law_law_535 : decode code 535 = .ok (.iconst 1, 1) := by decide +kernel
theorem d_Law_law_536 : decode code 536 = .ok (.iadd, 1) := by decide +kernel
theorem d_Law_law_537 : decode code 537 = .ok (.iaload, 1) := by decide +kernel
theorem d_Law_law_538 : decode code 538 = .ok (.aload_n 0, 1) := by decide +kernel
theorem d_Law_law_539 : decode code 539 = .ok (.iload_n 3, 1) := by decide +kernel
theorem d_Law_law_540 : decode code 540 = .ok (.iconst 2, 1) := by decide +kernel
theorem d_Law_law_541 : decode code 541 = .ok (.iadd, 1) := by decide +kernel
theorem d_Law_law_542 : decode code 542 = .ok (.iaload, 1) := by decide +kernel
theorem d_Law_law_543 : decode code 543 = .ok (.aload_n 0, 1) := by decide +kernel
theorem d_Law_law_544 : decode code 544 = .ok (.iload_n 3, 1) := by decide +kernel
theorem d_Law_law_545 : decode code 545 = .ok (.iconst 3, 1) := by decide +kernel
theorem d_Law_law_546 : decode code 546 = .ok (.iadd, 1) := by decide +kernel
theorem d_Law_law_547 : decode code 547 = .ok (.iaload, 1) := by decide +kernel
theorem d_Law_law_548 : decode code 548 = .ok (.i2l, 1) := by decide +kernel
theorem d_Law_law_549 : decode code 549 = .ok (.bipush 32, 2) := by decide +kernel
theorem d_Law_law_551 : decode code 551 = .ok (.lshl, 1) := by decide +kernel
theorem d_Law_law_552 : decode code 552 = .ok (.aload_n 0, 1) := by decide +kernel
theorem d_Law_law_553 : decode code 553 = .ok (.iload_n 3, 1) := by decide +kernel
theorem d_Law_law_554 : decode code 554 = .ok (.iconst 4, 1) := by decide +kernel
theorem d_Law_law_555 : decode code 555 = .ok (.iadd, 1) := by decide +kernel
theorem d_Law_law_556 : decode code 556 = .ok (.iaload, 1) := by decide +kernel
theorem d_Law_law_557 : decode code 557 = .ok (.i2l, 1) := by decide +kernel
theorem d_Law_law_558 : decode code 558 = .ok (.ldc2_w 13, 3) := by decide +kernel
theorem d_Law_law_561 : decode code 561 = .ok (.land, 1) := by decide +kernel
theorem d_Law_law_562 : decode code 562 = .ok (.lor, 1) := by decide +kernel
theorem d_Law_law_563 : decode code 563 = .ok (.aload_n 0, 1) := by decide +kernel
theorem d_Law_law_564 : decode code 564 = .ok (.iload_n 3, 1) := by decide +kernel
theorem d_Law_law_565 : decode code 565 = .ok (.iconst 5, 1) := by decide +kernel
theorem d_Law_law_566 : decode code 566 = .ok (.iadd, 1) := by decide +kernel
theorem d_Law_law_567 : decode code 567 = .ok (.iaload, 1) := by decide +kernel
theorem d_Law_law_568 : decode code 568 = .ok (.i2l, 1) := by decide +kernel
theorem d_Law_law_569 : decode code 569 = .ok (.bipush 32, 2) := by decide +kernel
theorem d_Law_law_571 : decode code 571 = .ok (.lshl, 1) := by decide +kernel
theorem d_Law_law_572 : decode code 572 = .ok (.aload_n 0, 1) := by decide +kernel
theorem d_Law_law_573 : decode code 573 = .ok (.iload_n 3, 1) := by decide +kernel
theorem d_Law_law_574 : decode code 574 = .ok (.bipush 6, 2) := by decide +kernel
theorem d_Law_law_576 : decode code 576 = .ok (.iadd, 1) := by decide +kernel
theorem d_Law_law_577 : decode code 577 = .ok (.iaload, 1) := by decide +kernel
theorem d_Law_law_578 : decode code 578 = .ok (.i2l, 1) := by decide +kernel
theorem d_Law_law_579 : decode code 579 = .ok (.ldc2_w 13, 3) := by decide +kernel
theorem d_Law_law_582 : decode code 582 = .ok (.land, 1) := by decide +kernel
theorem d_Law_law_583 : decode code 583 = .ok (.lor, 1) := by decide +kernel
theorem d_Law_law_584 : decode code 584 = .ok (.aload_n 0, 1) := by decide +kernel
theorem d_Law_law_585 : decode code 585 = .ok (.iload_n 3, 1) := by decide +kernel
theorem d_Law_law_586 : decode code 586 = .ok (.bipush 7, 2) := by decide +kernel
theorem d_Law_law_588 : decode code 588 = .ok (.iadd, 1) := by decide +kernel
theorem d_Law_law_589 : decode code 589 = .ok (.iaload, 1) := by decide +kernel
theorem d_Law_law_590 : decode code 590 = .ok (.invokevirtual 63, 3) := by decide +kernel
theorem d_Law_law_593 : decode code 593 = .ok (.aload_n 2, 1) := by decide +kernel
theorem d_Law_law_594 : decode code 594 = .ok (.aload_n 0, 1) := by decide +kernel
theorem d_Law_law_595 : decode code 595 = .ok (.iload_n 3, 1) := by decide +kernel
theorem d_Law_law_596 : decode code 596 = .ok (.iconst 1, 1) := by decide +kernel
theorem d_Law_law_597 : decode code 597 = .ok (.iadd, 1) := by decide +kernel
theorem d_Law_law_598 : decode code 598 = .ok (.iaload, 1) := by decide +kernel
theorem d_Law_law_599 : decode code 599 = .ok (.aload_n 0, 1) := by decide +kernel
theorem d_Law_law_600 : decode code 600 = .ok (.iload_n 3, 1) := by decide +kernel
theorem d_Law_law_601 : decode code 601 = .ok (.iconst 2, 1) := by decide +kernel
theorem d_Law_law_602 : decode code 602 = .ok (.iadd, 1) := by decide +kernel
theorem d_Law_law_603 : decode code 603 = .ok (.iaload, 1) := by decide +kernel
theorem d_Law_law_604 : decode code 604 = .ok (.aload_n 0, 1) := by decide +kernel
theorem d_Law_law_605 : decode code 605 = .ok (.iload_n 3, 1) := by decide +kernel
theorem d_Law_law_606 : decode code 606 = .ok (.iconst 3, 1) := by decide +kernel
theorem d_Law_law_607 : decode code 607 = .ok (.iadd, 1) := by decide +kernel
theorem d_Law_law_608 : decode code 608 = .ok (.iaload, 1) := by decide +kernel
theorem d_Law_law_609 : decode code 609 = .ok (.i2l, 1) := by decide +kernel
theorem d_Law_law_610 : decode code 610 = .ok (.bipush 32, 2) := by decide +kernel
theorem d_Law_law_612 : decode code 612 = .ok (.lshl, 1) := by decide +kernel
theorem d_Law_law_613 : decode code 613 = .ok (.aload_n 0, 1) := by decide +kernel
theorem d_Law_law_614 : decode code 614 = .ok (.iload_n 3, 1) := by decide +kernel
theorem d_Law_law_615 : decode code 615 = .ok (.iconst 4, 1) := by decide +kernel
theorem d_Law_law_616 : decode code 616 = .ok (.iadd, 1) := by decide +kernel
theorem d_Law_law_617 : decode code 617 = .ok (.iaload, 1) := by decide +kernel
theorem d_Law_law_618 : decode code 618 = .ok (.i2l, 1) := by decide +kernel
theorem d_Law_law_619 : decode code 619 = .ok (.ldc2_w 13, 3) := by decide +kernel
theorem d_Law_law_622 : decode code 622 = .ok (.land, 1) := by decide +kernel
theorem d_Law_law_623 : decode code 623 = .ok (.lor, 1) := by decide +kernel
theorem d_Law_law_624 : decode code 624 = .ok (.aload_n 0, 1) := by decide +kernel
theorem d_Law_law_625 : decode code 625 = .ok (.iload_n 3, 1) := by decide +kernel
theorem d_Law_law_626 : decode code 626 = .ok (.iconst 5, 1) := by decide +kernel
theorem d_Law_law_627 : decode code 627 = .ok (.iadd, 1) := by decide +kernel
theorem d_Law_law_628 : decode code 628 = .ok (.iaload, 1) := by decide +kernel
theorem d_Law_law_629 : decode code 629 = .ok (.i2l, 1) := by decide +kernel
theorem d_Law_law_630 : decode code 630 = .ok (.bipush 32, 2) := by decide +kernel
theorem d_Law_law_632 : decode code 632 = .ok (.lshl, 1) := by decide +kernel
theorem d_Law_law_633 : decode code 633 = .ok (.aload_n 0, 1) := by decide +kernel
theorem d_Law_law_634 : decode code 634 = .ok (.iload_n 3, 1) := by decide +kernel
theorem d_Law_law_635 : decode code 635 = .ok (.bipush 6, 2) := by decide +kernel
theorem d_Law_law_637 : decode code 637 = .ok (.iadd, 1) := by decide +kernel
theorem d_Law_law_638 : decode code 638 = .ok (.iaload, 1) := by decide +kernel
theorem d_Law_law_639 : decode code 639 = .ok (.i2l, 1) := by decide +kernel
theorem d_Law_law_640 : decode code 640 = .ok (.ldc2_w 13, 3) := by decide +kernel
theorem d_Law_law_643 : decode code 643 = .ok (.land, 1) := by decide +kernel
theorem d_Law_law_644 : decode code 644 = .ok (.lor, 1) := by decide +kernel
theorem d_Law_law_645 : decode code 645 = .ok (.aload_n 0, 1) := by decide +kernel
theorem d_Law_law_646 : decode code 646 = .ok (.iload_n 3, 1) := by decide +kernel
theorem d_Law_law_647 : decode code 647 = .ok (.bipush 7, 2) := by decide +kernel
theorem d_Law_law_649 : decode code 649 = .ok (.iadd, 1) := by decide +kernel
theorem d_Law_law_650 : decode code 650 = .ok (.iaload, 1) := by decide +kernel
theorem d_Law_law_651 : decode code 651 = .ok (.invokevirtual 66, 3) := by decide +kernel
theorem d_Law_law_654 : decode code 654 = .ok (.if_icmp .eq 183, 3) := by decide +kernel
theorem d_Law_law_657 : decode code 657 = .ok (.iconst 0, 1) := by decide +kernel
theorem d_Law_law_658 : decode code 658 = .ok (.ireturn, 1) := by decide +kernel
theorem d_Law_law_659 : decode code 659 = .ok (.aload_n 1, 1) := by decide +kernel
theorem d_Law_law_660 : decode code 660 = .ok (.invokevirtual 67, 3) := by decide +kernel
theorem d_Law_law_663 : decode code 663 = .ok (.aload_n 2, 1) := by decide +kernel
theorem d_Law_law_664 : decode code 664 = .ok (.invokevirtual 70, 3) := by decide +kernel
theorem d_Law_law_667 : decode code 667 = .ok (.if_icmp .eq 170, 3) := by decide +kernel
theorem d_Law_law_670 : decode code 670 = .ok (.iconst 0, 1) := by decide +kernel
theorem d_Law_law_671 : decode code 671 = .ok (.ireturn, 1) := by decide +kernel
theorem d_Law_law_672 : decode code 672 = .ok (.aload_n 1, 1) := by decide +kernel
theorem d_Law_law_673 : decode code 673 = .ok (.aload_n 0, 1) := by decide +kernel
theorem d_Law_law_674 : decode code 674 = .ok (.iload_n 3, 1) := by decide +kernel
theorem d_Law_law_675 : decode code 675 = .ok (.iconst 1, 1) := by decide +kernel
theorem d_Law_law_676 : decode code 676 = .ok (.iadd, 1) := by decide +kernel
theorem d_Law_law_677 : decode code 677 = .ok (.iaload, 1) := by decide +kernel
theorem d_Law_law_678 : decode code 678 = .ok (.invokevirtual 71, 3) := by decide +kernel
theorem d_Law_law_681 : decode code 681 = .ok (.aload_n 2, 1) := by decide +kernel
theorem d_Law_law_682 : decode code 682 = .ok (.aload_n 0, 1) := by decide +kernel
theorem d_Law_law_683 : decode code 683 = .ok (.iload_n 3, 1) := by decide +kernel
theorem d_Law_law_684 : decode code 684 = .ok (.iconst 1, 1) := by decide +kernel
theorem d_Law_law_685 : decode code 685 = .ok (.iadd, 1) := by decide +kernel
theorem d_Law_law_686 : decode code 686 = .ok (.iaload, 1) := by decide +kernel
theorem d_Law_law_687 : decode code 687 = .ok (.invokevirtual 74, 3) := by decide +kernel
theorem d_Law_law_690 : decode code 690 = .ok (.if_icmp .eq 147, 3) := by decide +kernel
theorem d_Law_law_693 : decode code 693 = .ok (.iconst 0, 1) := by decide +kernel
theorem d_Law_law_694 : decode code 694 = .ok (.ireturn, 1) := by decide +kernel
theorem d_Law_law_695 : decode code 695 = .ok (.aload_n 1, 1) := by decide +kernel
theorem d_Law_law_696 : decode code 696 = .ok (.aload_n 0, 1) := by decide +kernel
theorem d_Law_law_697 : decode code 697 = .ok (.iload_n 3, 1) := by decide +kernel
theorem d_Law_law_698 : decode code 698 = .ok (.iconst 1, 1) := by decide +kernel
theorem d_Law_law_699 : decode code 699 = .ok (.iadd, 1) := by decide +kernel
theorem d_Law_law_700 : decode code 700 = .ok (.iaload, 1) := by decide +kernel
theorem d_Law_law_701 : decode code 701 = .ok (.i2l, 1) := by decide +kernel
theorem d_Law_law_702 : decode code 702 = .ok (.bipush 32, 2) := by decide +kernel
theorem d_Law_law_704 : decode code 704 = .ok (.lshl, 1) := by decide +kernel
theorem d_Law_law_705 : decode code 705 = .ok (.aload_n 0, 1) := by decide +kernel
theorem d_Law_law_706 : decode code 706 = .ok (.iload_n 3, 1) := by decide +kernel
theorem d_Law_law_707 : decode code 707 = .ok (.iconst 2, 1) := by decide +kernel
theorem d_Law_law_708 : decode code 708 = .ok (.iadd, 1) := by decide +kernel
theorem d_Law_law_709 : decode code 709 = .ok (.iaload, 1) := by decide +kernel
theorem d_Law_law_710 : decode code 710 = .ok (.i2l, 1) := by decide +kernel
theorem d_Law_law_711 : decode code 711 = .ok (.ldc2_w 13, 3) := by decide +kernel
theorem d_Law_law_714 : decode code 714 = .ok (.land, 1) := by decide +kernel
theorem d_Law_law_715 : decode code 715 = .ok (.lor, 1) := by decide +kernel
theorem d_Law_law_716 : decode code 716 = .ok (.aload_n 0, 1) := by decide +kernel
theorem d_Law_law_717 : decode code 717 = .ok (.iload_n 3, 1) := by decide +kernel
theorem d_Law_law_718 : decode code 718 = .ok (.iconst 3, 1) := by decide +kernel
theorem d_Law_law_719 : decode code 719 = .ok (.iadd, 1) := by decide +kernel
theorem d_Law_law_720 : decode code 720 = .ok (.iaload, 1) := by decide +kernel
theorem d_Law_law_721 : decode code 721 = .ok (.i2l, 1) := by decide +kernel
theorem d_Law_law_722 : decode code 722 = .ok (.bipush 32, 2) := by decide +kernel
theorem d_Law_law_724 : decode code 724 = .ok (.lshl, 1) := by decide +kernel
theorem d_Law_law_725 : decode code 725 = .ok (.aload_n 0, 1) := by decide +kernel
theorem d_Law_law_726 : decode code 726 = .ok (.iload_n 3, 1) := by decide +kernel
theorem d_Law_law_727 : decode code 727 = .ok (.iconst 4, 1) := by decide +kernel
theorem d_Law_law_728 : decode code 728 = .ok (.iadd, 1) := by decide +kernel
theorem d_Law_law_729 : decode code 729 = .ok (.iaload, 1) := by decide +kernel
theorem d_Law_law_730 : decode code 730 = .ok (.i2l, 1) := by decide +kernel
theorem d_Law_law_731 : decode code 731 = .ok (.ldc2_w 13, 3) := by decide +kernel
theorem d_Law_law_734 : decode code 734 = .ok (.land, 1) := by decide +kernel
theorem d_Law_law_735 : decode code 735 = .ok (.lor, 1) := by decide +kernel
theorem d_Law_law_736 : decode code 736 = .ok (.aload_n 0, 1) := by decide +kernel
theorem d_Law_law_737 : decode code 737 = .ok (.iload_n 3, 1) := by decide +kernel
theorem d_Law_law_738 : decode code 738 = .ok (.iconst 5, 1) := by decide +kernel
theorem d_Law_law_739 : decode code 739 = .ok (.iadd, 1) := by decide +kernel
theorem d_Law_law_740 : decode code 740 = .ok (.iaload, 1) := by decide +kernel
theorem d_Law_law_741 : decode code 741 = .ok (.ifCond .eq 7, 3) := by decide +kernel
theorem d_Law_law_744 : decode code 744 = .ok (.iconst 1, 1) := by decide +kernel
theorem d_Law_law_745 : decode code 745 = .ok (.goto 4, 3) := by decide +kernel
theorem d_Law_law_748 : decode code 748 = .ok (.iconst 0, 1) := by decide +kernel
theorem d_Law_law_749 : decode code 749 = .ok (.invokevirtual 75, 3) := by decide +kernel
theorem d_Law_law_752 : decode code 752 = .ok (.aload_n 2, 1) := by decide +kernel
theorem d_Law_law_753 : decode code 753 = .ok (.aload_n 0, 1) := by decide +kernel
theorem d_Law_law_754 : decode code 754 = .ok (.iload_n 3, 1) := by decide +kernel
theorem d_Law_law_755 : decode code 755 = .ok (.iconst 1, 1) := by decide +kernel
theorem d_Law_law_756 : decode code 756 = .ok (.iadd, 1) := by decide +kernel
theorem d_Law_law_757 : decode code 757 = .ok (.iaload, 1) := by decide +kernel
theorem d_Law_law_758 : decode code 758 = .ok (.i2l, 1) := by decide +kernel
theorem d_Law_law_759 : decode code 759 = .ok (.bipush 32, 2) := by decide +kernel
theorem d_Law_law_761 : decode code 761 = .ok (.lshl, 1) := by decide +kernel
theorem d_Law_law_762 : decode code 762 = .ok (.aload_n 0, 1) := by decide +kernel
theorem d_Law_law_763 : decode code 763 = .ok (.iload_n 3, 1) := by decide +kernel
theorem d_Law_law_764 : decode code 764 = .ok (.iconst 2, 1) := by decide +kernel
theorem d_Law_law_765 : decode code 765 = .ok (.iadd, 1) := by decide +kernel
theorem d_Law_law_766 : decode code 766 = .ok (.iaload, 1) := by decide +kernel
theorem d_Law_law_767 : decode code 767 = .ok (.i2l, 1) := by decide +kernel
theorem d_Law_law_768 : decode code 768 = .ok (.ldc2_w 13, 3) := by decide +kernel
theorem d_Law_law_771 : decode code 771 = .ok (.land, 1) := by decide +kernel
theorem d_Law_law_772 : decode code 772 = .ok (.lor, 1) := by decide +kernel
theorem d_Law_law_773 : decode code 773 = .ok (.aload_n 0, 1) := by decide +kernel
theorem d_Law_law_774 : decode code 774 = .ok (.iload_n 3, 1) := by decide +kernel
theorem d_Law_law_775 : decode code 775 = .ok (.iconst 3, 1) := by decide +kernel
theorem d_Law_law_776 : decode code 776 = .ok (.iadd, 1) := by decide +kernel
theorem d_Law_law_777 : decode code 777 = .ok (.iaload, 1) := by decide +kernel
theorem d_Law_law_778 : decode code 778 = .ok (.i2l, 1) := by decide +kernel
theorem d_Law_law_779 : decode code 779 = .ok (.bipush 32, 2) := by decide +kernel
theorem d_Law_law_781 : decode code 781 = .ok (.lshl, 1) := by decide +kernel
theorem d_Law_law_782 : decode code 782 = .ok (.aload_n 0, 1) := by decide +kernel
theorem d_Law_law_783 : decode code 783 = .ok (.iload_n 3, 1) := by decide +kernel
theorem d_Law_law_784 : decode code 784 = .ok (.iconst 4, 1) := by decide +kernel
theorem d_Law_law_785 : decode code 785 = .ok (.iadd, 1) := by decide +kernel
theorem d_Law_law_786 : decode code 786 = .ok (.iaload, 1) := by decide +kernel
theorem d_Law_law_787 : decode code 787 = .ok (.i2l, 1) := by decide +kernel
theorem d_Law_law_788 : decode code 788 = .ok (.ldc2_w 13, 3) := by decide +kernel
theorem d_Law_law_791 : decode code 791 = .ok (.land, 1) := by decide +kernel
theorem d_Law_law_792 : decode code 792 = .ok (.lor, 1) := by decide +kernel
theorem d_Law_law_793 : decode code 793 = .ok (.aload_n 0, 1) := by decide +kernel
theorem d_Law_law_794 : decode code 794 = .ok (.iload_n 3, 1) := by decide +kernel
theorem d_Law_law_795 : decode code 795 = .ok (.iconst 5, 1) := by decide +kernel
theorem d_Law_law_796 : decode code 796 = .ok (.iadd, 1) := by decide +kernel
theorem d_Law_law_797 : decode code 797 = .ok (.iaload, 1) := by decide +kernel
theorem d_Law_law_798 : decode code 798 = .ok (.ifCond .eq 7, 3) := by decide +kernel
theorem d_Law_law_801 : decode code 801 = .ok (.iconst 1, 1) := by decide +kernel
theorem d_Law_law_802 : decode code 802 = .ok (.goto 4, 3) := by decide +kernel
theorem d_Law_law_805 : decode code 805 = .ok (.iconst 0, 1) := by decide +kernel
theorem d_Law_law_806 : decode code 806 = .ok (.invokevirtual 79, 3) := by decide +kernel
theorem d_Law_law_809 : decode code 809 = .ok (.if_icmp .eq 28, 3) := by decide +kernel
theorem d_Law_law_812 : decode code 812 = .ok (.iconst 0, 1) := by decide +kernel
theorem d_Law_law_813 : decode code 813 = .ok (.ireturn, 1) := by decide +kernel
theorem d_Law_law_814 : decode code 814 = .ok (.aload_n 1, 1) := by decide +kernel
theorem d_Law_law_815 : decode code 815 = .ok (.aload_n 0, 1) := by decide +kernel
theorem d_Law_law_816 : decode code 816 = .ok (.iload_n 3, 1) := by decide +kernel
theorem d_Law_law_817 : decode code 817 = .ok (.iconst 1, 1) := by decide +kernel
theorem d_Law_law_818 : decode code 818 = .ok (.iadd, 1) := by decide +kernel
theorem d_Law_law_819 : decode code 819 = .ok (.iaload, 1) := by decide +kernel
theorem d_Law_law_820 : decode code 820 = .ok (.invokevirtual 80, 3) := by decide +kernel
theorem d_Law_law_823 : decode code 823 = .ok (.aload_n 2, 1) := by decide +kernel
theorem d_Law_law_824 : decode code 824 = .ok (.aload_n 0, 1) := by decide +kernel
theorem d_Law_law_825 : decode code 825 = .ok (.iload_n 3, 1) := by decide +kernel
theorem d_Law_law_826 : decode code 826 = .ok (.iconst 1, 1) := by decide +kernel
theorem d_Law_law_827 : decode code 827 = .ok (.iadd, 1) := by decide +kernel
theorem d_Law_law_828 : decode code 828 = .ok (.iaload, 1) := by decide +kernel
theorem d_Law_law_829 : decode code 829 = .ok (.invokevirtual 83, 3) := by decide +kernel
theorem d_Law_law_832 : decode code 832 = .ok (.if_icmp .eq 5, 3) := by decide +kernel
theorem d_Law_law_835 : decode code 835 = .ok (.iconst 0, 1) := by decide +kernel
theorem d_Law_law_836 : decode code 836 = .ok (.ireturn, 1) := by decide +kernel
theorem d_Law_law_837 : decode code 837 = .ok (.iinc 3 8, 3) := by decide +kernel
theorem d_Law_law_840 : decode code 840 = .ok (.goto (-822), 3) := by decide +kernel
theorem d_Law_law_843 : decode code 843 = .ok (.iconst 1, 1) := by decide +kernel
theorem d_Law_law_844 : decode code 844 = .ok (.ireturn, 1) := by decide +kernel
