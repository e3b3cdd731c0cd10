theorem dd_law_0 : decode code 0 = .ok (.new 7, 3) := by decide +kernel
theorem dd_law_3 : decode code 3 = .ok (.dup, 1) := by decide +kernel
theorem dd_law_4 : decode code 4 = .ok (.invokespecial 9, 3) := by decide +kernel
theorem dd_law_7 : decode code 7 = .ok (.astore_n 1, 1) := by decide +kernel
theorem dd_law_8 : decode code 8 = .ok (.new 10, 3) := by decide +kernel
theorem dd_law_11 : decode code 11 = .ok (.dup, 1) := by decide +kernel
theorem dd_law_12 : decode code 12 = .ok (.invokespecial 12, 3) := by decide +kernel
theorem dd_law_15 : decode code 15 = .ok (.astore_n 2, 1) := by decide +kernel
theorem dd_law_16 : decode code 16 = .ok (.iconst 0, 1) := by decide +kernel
theorem dd_law_17 : decode code 17 = .ok (.istore_n 3, 1) := by decide +kernel
theorem dd_law_18 : decode code 18 = .ok (.iload_n 3, 1) := by decide +kernel
theorem dd_law_19 : decode code 19 = .ok (.aload_n 0, 1) := by decide +kernel
theorem dd_law_20 : decode code 20 = .ok (.arraylength, 1) := by decide +kernel
theorem dd_law_21 : decode code 21 = .ok (.bipush 6, 2) := by decide +kernel
theorem dd_law_23 : decode code 23 = .ok (.isub, 1) := by decide +kernel
theorem dd_law_24 : decode code 24 = .ok (.if_icmp .gt 666, 3) := by decide +kernel
theorem dd_law_27 : decode code 27 = .ok (.aload_n 0, 1) := by decide +kernel
theorem dd_law_28 : decode code 28 = .ok (.iload_n 3, 1) := by decide +kernel
theorem dd_law_29 : decode code 29 = .ok (.iaload, 1) := by decide +kernel
theorem dd_law_30 : decode code 30 = .ok (.bipush 31, 2) := by decide +kernel
theorem dd_law_32 : decode code 32 = .ok (.iand, 1) := by decide +kernel
theorem dd_law_33 : decode code 33 = .ok (.tableswitch 651 0 17 #[87, 150, 173, 196, 229, 272, 325, 348, 381, 404, 427, 440, 463, 476, 499, 542, 585, 608], 87) := by decide +kernel
theorem dd_law_120 : decode code 120 = .ok (.aload_n 1, 1) := by decide +kernel
theorem dd_law_121 : decode code 121 = .ok (.aload_n 0, 1) := by decide +kernel
theorem dd_law_122 : decode code 122 = .ok (.iload_n 3, 1) := by decide +kernel
theorem dd_law_123 : decode code 123 = .ok (.iconst 1, 1) := by decide +kernel
theorem dd_law_124 : decode code 124 = .ok (.iadd, 1) := by decide +kernel
theorem dd_law_125 : decode code 125 = .ok (.iaload, 1) := by decide +kernel
theorem dd_law_126 : decode code 126 = .ok (.aload_n 0, 1) := by decide +kernel
theorem dd_law_127 : decode code 127 = .ok (.iload_n 3, 1) := by decide +kernel
theorem dd_law_128 : decode code 128 = .ok (.iconst 2, 1) := by decide +kernel
theorem dd_law_129 : decode code 129 = .ok (.iadd, 1) := by decide +kernel
theorem dd_law_130 : decode code 130 = .ok (.iaload, 1) := by decide +kernel
theorem dd_law_131 : decode code 131 = .ok (.aload_n 0, 1) := by decide +kernel
theorem dd_law_132 : decode code 132 = .ok (.iload_n 3, 1) := by decide +kernel
theorem dd_law_133 : decode code 133 = .ok (.iconst 3, 1) := by decide +kernel
theorem dd_law_134 : decode code 134 = .ok (.iadd, 1) := by decide +kernel
theorem dd_law_135 : decode code 135 = .ok (.iaload, 1) := by decide +kernel
theorem dd_law_136 : decode code 136 = .ok (.aload_n 0, 1) := by decide +kernel
theorem dd_law_137 : decode code 137 = .ok (.iload_n 3, 1) := by decide +kernel
theorem dd_law_138 : decode code 138 = .ok (.iconst 4, 1) := by decide +kernel
theorem dd_law_139 : decode code 139 = .ok (.iadd, 1) := by decide +kernel
theorem dd_law_140 : decode code 140 = .ok (.iaload, 1) := by decide +kernel
theorem dd_law_141 : decode code 141 = .ok (.aload_n 0, 1) := by decide +kernel
theorem dd_law_142 : decode code 142 = .ok (.iload_n 3, 1) := by decide +kernel
theorem dd_law_143 : decode code 143 = .ok (.iconst 5, 1) := by decide +kernel
theorem dd_law_144 : decode code 144 = .ok (.iadd, 1) := by decide +kernel
theorem dd_law_145 : decode code 145 = .ok (.iaload, 1) := by decide +kernel
theorem dd_law_146 : decode code 146 = .ok (.invokevirtual 13, 3) := by decide +kernel
theorem dd_law_149 : decode code 149 = .ok (.pop, 1) := by decide +kernel
theorem dd_law_150 : decode code 150 = .ok (.aload_n 2, 1) := by decide +kernel
theorem dd_law_151 : decode code 151 = .ok (.aload_n 0, 1) := by decide +kernel
theorem dd_law_152 : decode code 152 = .ok (.iload_n 3, 1) := by decide +kernel
theorem dd_law_153 : decode code 153 = .ok (.iconst 1, 1) := by decide +kernel
theorem dd_law_154 : decode code 154 = .ok (.iadd, 1) := by decide +kernel
theorem dd_law_155 : decode code 155 = .ok (.iaload, 1) := by decide +kernel
theorem dd_law_156 : decode code 156 = .ok (.aload_n 0, 1) := by decide +kernel
theorem dd_law_157 : decode code 157 = .ok (.iload_n 3, 1) := by decide +kernel
theorem dd_law_158 : decode code 158 = .ok (.iconst 2, 1) := by decide +kernel
theorem dd_law_159 : decode code 159 = .ok (.iadd, 1) := by decide +kernel
theorem dd_law_160 : decode code 160 = .ok (.iaload, 1) := by decide +kernel
theorem dd_law_161 : decode code 161 = .ok (.aload_n 0, 1) := by decide +kernel
theorem dd_law_162 : decode code 162 = .ok (.iload_n 3, 1) := by decide +kernel
theorem dd_law_163 : decode code 163 = .ok (.iconst 3, 1) := by decide +kernel
theorem dd_law_164 : decode code 164 = .ok (.iadd, 1) := by decide +kernel
theorem dd_law_165 : decode code 165 = .ok (.iaload, 1) := by decide +kernel
theorem dd_law_166 : decode code 166 = .ok (.aload_n 0, 1) := by decide +kernel
theorem dd_law_167 : decode code 167 = .ok (.iload_n 3, 1) := by decide +kernel
theorem dd_law_168 : decode code 168 = .ok (.iconst 4, 1) := by decide +kernel
theorem dd_law_169 : decode code 169 = .ok (.iadd, 1) := by decide +kernel
theorem dd_law_170 : decode code 170 = .ok (.iaload, 1) := by decide +kernel
theorem dd_law_171 : decode code 171 = .ok (.aload_n 0, 1) := by decide +kernel
theorem dd_law_172 : decode code 172 = .ok (.iload_n 3, 1) := by decide +kernel
theorem dd_law_173 : decode code 173 = .ok (.iconst 5, 1) := by decide +kernel
theorem dd_law_174 : decode code 174 = .ok (.iadd, 1) := by decide +kernel
theorem dd_law_175 : decode code 175 = .ok (.iaload, 1) := by decide +kernel
theorem dd_law_176 : decode code 176 = .ok (.invokevirtual 17, 3) := by decide +kernel
theorem dd_law_179 : decode code 179 = .ok (.pop, 1) := by decide +kernel
theorem dd_law_180 : decode code 180 = .ok (.goto 504, 3) := by decide +kernel
theorem dd_law_183 : decode code 183 = .ok (.aload_n 1, 1) := by decide +kernel
theorem dd_law_184 : decode code 184 = .ok (.aload_n 0, 1) := by decide +kernel
theorem dd_law_185 : decode code 185 = .ok (.iload_n 3, 1) := by decide +kernel
theorem dd_law_186 : decode code 186 = .ok (.iconst 1, 1) := by decide +kernel
theorem dd_law_187 : decode code 187 = .ok (.iadd, 1) := by decide +kernel
theorem dd_law_188 : decode code 188 = .ok (.iaload, 1) := by decide +kernel
theorem dd_law_189 : decode code 189 = .ok (.invokevirtual 18, 3) := by decide +kernel
theorem dd_law_192 : decode code 192 = .ok (.pop, 1) := by decide +kernel
theorem dd_law_193 : decode code 193 = .ok (.aload_n 2, 1) := by decide +kernel
theorem dd_law_194 : decode code 194 = .ok (.aload_n 0, 1) := by decide +kernel
theorem dd_law_195 : decode code 195 = .ok (.iload_n 3, 1) := by decide +kernel
theorem dd_law_196 : decode code 196 = .ok (.iconst 1, 1) := by decide +kernel
theorem dd_law_197 : decode code 197 = .ok (.iadd, 1) := by decide +kernel
theorem dd_law_198 : decode code 198 = .ok (.iaload, 1) := by decide +kernel
theorem dd_law_199 : decode code 199 = .ok (.invokevirtual 22, 3) := by decide +kernel
theorem dd_law_202 : decode code 202 = .ok (.pop, 1) := by decide +kernel
theorem dd_law_203 : decode code 203 = .ok (.goto 481, 3) := by decide +kernel
theorem dd_law_206 : decode code 206 = .ok (.aload_n 1, 1) := by decide +kernel
theorem dd_law_207 : decode code 207 = .ok (.aload_n 0, 1) := by decide +kernel
theorem dd_law_208 : decode code 208 = .ok (.iload_n 3, 1) := by decide +kernel
theorem dd_law_209 : decode code 209 = .ok (.iconst 1, 1) := by decide +kernel
theorem dd_law_210 : decode code 210 = .ok (.iadd, 1) := by decide +kernel
theorem dd_law_211 : decode code 211 = .ok (.iaload, 1) := by decide +kernel
theorem dd_law_212 : decode code 212 = .ok (.invokevirtual 23, 3) := by decide +kernel
theorem dd_law_215 : decode code 215 = .ok (.pop, 1) := by decide +kernel
theorem dd_law_216 : decode code 216 = .ok (.aload_n 2, 1) := by decide +kernel
theorem dd_law_217 : decode code 217 = .ok (.aload_n 0, 1) := by decide +kernel
theorem dd_law_218 : decode code 218 = .ok (.iload_n 3, 1) := by decide +kernel
theorem dd_law_219 : decode code 219 = .ok (.iconst 1, 1) := by decide +kernel
theorem dd_law_220 : decode code 220 = .ok (.iadd, 1) := by decide +kernel
theorem dd_law_221 : decode code 221 = .ok (.iaload, 1) := by decide +kernel
theorem dd_law_222 : decode code 222 = .ok (.invokevirtual 26, 3) := by decide +kernel
theorem dd_law_225 : decode code 225 = .ok (.pop, 1) := by decide +kernel
theorem dd_law_226 : decode code 226 = .ok (.goto 458, 3) := by decide +kernel
theorem dd_law_229 : decode code 229 = .ok (.aload_n 1, 1) := by decide +kernel
theorem dd_law_230 : decode code 230 = .ok (.aload_n 0, 1) := by decide +kernel
theorem dd_law_231 : decode code 231 = .ok (.iload_n 3, 1) := by decide +kernel
theorem dd_law_232 : decode code 232 = .ok (.iconst 1, 1) := by decide +kernel
theorem dd_law_233 : decode code 233 = .ok (.iadd, 1) := by decide +kernel
theorem dd_law_234 : decode code 234 = .ok (.iaload, 1) := by decide +kernel
theorem dd_law_235 : decode code 235 = .ok (.aload_n 0, 1) := by decide +kernel
theorem dd_law_236 : decode code 236 = .ok (.iload_n 3, 1) := by decide +kernel
theorem dd_law_237 : decode code 237 = .ok (.iconst 2, 1) := by decide +kernel
theorem dd_law_238 : decode code 238 = .ok (.iadd, 1) := by decide +kernel
theorem dd_law_239 : decode code 239 = .ok (.iaload, 1) := by decide +kernel
theorem dd_law_240 : decode code 240 = .ok (.invokevirtual 27, 3) := by decide +kernel
theorem dd_law_243 : decode code 243 = .ok (.pop, 1) := by decide +kernel
theorem dd_law_244 : decode code 244 = .ok (.aload_n 2, 1) := by decide +kernel
theorem dd_law_245 : decode code 245 = .ok (.aload_n 0, 1) := by decide +kernel
theorem dd_law_246 : decode code 246 = .ok (.iload_n 3, 1) := by decide +kernel
theorem dd_law_247 : decode code 247 = .ok (.iconst 1, 1) := by decide +kernel
theorem dd_law_248 : decode code 248 = .ok (.iadd, 1) := by decide +kernel
theorem dd_law_249 : decode code 249 = .ok (.iaload, 1) := by decide +kernel
theorem dd_law_250 : decode code 250 = .ok (.aload_n 0, 1) := by decide +kernel
theorem dd_law_251 : decode code 251 = .ok (.iload_n 3, 1) := by decide +kernel
theorem dd_law_252 : decode code 252 = .ok (.iconst 2, 1) := by decide +kernel
theorem dd_law_253 : decode code 253 = .ok (.iadd, 1) := by decide +kernel
theorem dd_law_254 : decode code 254 = .ok (.iaload, 1) := by decide +kernel
theorem dd_law_255 : decode code 255 = .ok (.invokevirtual 31, 3) := by decide +kernel
theorem dd_law_258 : decode code 258 = .ok (.pop, 1) := by decide +kernel
theorem dd_law_259 : decode code 259 = .ok (.goto 425, 3) := by decide +kernel
theorem dd_law_262 : decode code 262 = .ok (.aload_n 1, 1) := by decide +kernel
theorem dd_law_263 : decode code 263 = .ok (.aload_n 0, 1) := by decide +kernel
theorem dd_law_264 : decode code 264 = .ok (.iload_n 3, 1) := by decide +kernel
theorem dd_law_265 : decode code 265 = .ok (.iconst 1, 1) := by decide +kernel
theorem dd_law_266 : decode code 266 = .ok (.iadd, 1) := by decide +kernel
theorem dd_law_267 : decode code 267 = .ok (.iaload, 1) := by decide +kernel
theorem dd_law_268 : decode code 268 = .ok (.aload_n 0, 1) := by decide +kernel
theorem dd_law_269 : decode code 269 = .ok (.iload_n 3, 1) := by decide +kernel
theorem dd_law_270 : decode code 270 = .ok (.iconst 2, 1) := by decide +kernel
theorem dd_law_271 : decode code 271 = .ok (.iadd, 1) := by decide +kernel
theorem dd_law_272 : decode code 272 = .ok (.iaload, 1) := by decide +kernel
theorem dd_law_273 : decode code 273 = .ok (.aload_n 0, 1) := by decide +kernel
theorem dd_law_274 : decode code 274 = .ok (.iload_n 3, 1) := by decide +kernel
theorem dd_law_275 : decode code 275 = .ok (.iconst 3, 1) := by decide +kernel
theorem dd_law_276 : decode code 276 = .ok (.iadd, 1) := by decide +kernel
theorem dd_law_277 : decode code 277 = .ok (.iaload, 1) := by decide +kernel
theorem dd_law_278 : decode code 278 = .ok (.invokevirtual 32, 3) := by decide +kernel
theorem dd_law_281 : decode code 281 = .ok (.pop, 1) := by decide +kernel
theorem dd_law_282 : decode code 282 = .ok (.aload_n 2, 1) := by decide +kernel
theorem dd_law_283 : decode code 283 = .ok (.aload_n 0, 1) := by decide +kernel
theorem dd_law_284 : decode code 284 = .ok (.iload_n 3, 1) := by decide +kernel
theorem dd_law_285 : decode code 285 = .ok (.iconst 1, 1) := by decide +kernel
theorem dd_law_286 : decode code 286 = .ok (.iadd, 1) := by decide +kernel
theorem dd_law_287 : decode code 287 = .ok (.iaload, 1) := by decide +kernel
theorem dd_law_288 : decode code 288 = .ok (.aload_n 0, 1) := by decide +kernel
theorem dd_law_289 : decode code 289 = .ok (.iload_n 3, 1) := by decide +kernel
theorem dd_law_290 : decode code 290 = .ok (.iconst 2, 1) := by decide +kernel
theorem dd_law_291 : decode code 291 = .ok (.iadd, 1) := by decide +kernel
theorem dd_law_292 : decode code 292 = .ok (.iaload, 1) := by decide +kernel
theorem dd_law_293 : decode code 293 = .ok (.aload_n 0, 1) := by decide +kernel
theorem dd_law_294 : decode code 294 = .ok (.iload_n 3, 1) := by decide +kernel
theorem dd_law_295 : decode code 295 = .ok (.iconst 3, 1) := by decide +kernel
theorem dd_law_296 : decode code 296 = .ok (.iadd, 1) := by decide +kernel
theorem dd_law_297 : decode code 297 = .ok (.iaload, 1) := by decide +kernel
theorem dd_law_298 : decode code 298 = .ok (.invokevirtual 36, 3) := by decide +kernel
theorem dd_law_301 : decode code 301 = .ok (.pop, 1) := by decide +kernel
theorem dd_law_302 : decode code 302 = .ok (.goto 382, 3) := by decide +kernel
theorem dd_law_305 : decode code 305 = .ok (.aload_n 1, 1) := by decide +kernel
theorem dd_law_306 : decode code 306 = .ok (.aload_n 0, 1) := by decide +kernel
theorem dd_law_307 : decode code 307 = .ok (.iload_n 3, 1) := by decide +kernel
theorem dd_law_308 : decode code 308 = .ok (.iconst 1, 1) := by decide +kernel
theorem dd_law_309 : decode code 309 = .ok (.iadd, 1) := by decide +kernel
theorem dd_law_310 : decode code 310 = .ok (.iaload, 1) := by decide +kernel
theorem dd_law_311 : decode code 311 = .ok (.aload_n 0, 1) := by decide +kernel
theorem dd_law_312 : decode code 312 = .ok (.iload_n 3, 1) := by decide +kernel
theorem dd_law_313 : decode code 313 = .ok (.iconst 2, 1) := by decide +kernel
theorem dd_law_314 : decode code 314 = .ok (.iadd, 1) := by decide +kernel
theorem dd_law_315 : decode code 315 = .ok (.iaload, 1) := by decide +kernel
theorem dd_law_316 : decode code 316 = .ok (.aload_n 0, 1) := by decide +kernel
theorem dd_law_317 : decode code 317 = .ok (.iload_n 3, 1) := by decide +kernel
theorem dd_law_318 : decode code 318 = .ok (.iconst 3, 1) := by decide +kernel
theorem dd_law_319 : decode code 319 = .ok (.iadd, 1) := by decide +kernel
theorem dd_law_320 : decode code 320 = .ok (.iaload, 1) := by decide +kernel
theorem dd_law_321 : decode code 321 = .ok (.aload_n 0, 1) := by decide +kernel
theorem dd_law_322 : decode code 322 = .ok (.iload_n 3, 1) := by decide +kernel
theorem dd_law_323 : decode code 323 = .ok (.iconst 4, 1) := by decide +kernel
theorem dd_law_324 : decode code 324 = .ok (.iadd, 1) := by decide +kernel
theorem dd_law_325 : decode code 325 = .ok (.iaload, 1) := by decide +kernel
theorem dd_law_326 : decode code 326 = .ok (.invokevirtual 37, 3) := by decide +kernel
theorem dd_law_329 : decode code 329 = .ok (.pop, 1) := by decide +kernel
theorem dd_law_330 : decode code 330 = .ok (.aload_n 2, 1) := by decide +kernel
theorem dd_law_331 : decode code 331 = .ok (.aload_n 0, 1) := by decide +kernel
theorem dd_law_332 : decode code 332 = .ok (.iload_n 3, 1) := by decide +kernel
theorem dd_law_333 : decode code 333 = .ok (.iconst 1, 1) := by decide +kernel
theorem dd_law_334 : decode code 334 = .ok (.iadd, 1) := by decide +kernel
theorem dd_law_335 : decode code 335 = .ok (.iaload, 1) := by decide +kernel
theorem dd_law_336 : decode code 336 = .ok (.aload_n 0, 1) := by decide +kernel
theorem dd_law_337 : decode code 337 = .ok (.iload_n 3, 1) := by decide +kernel
theorem dd_law_338 : decode code 338 = .ok (.iconst 2, 1) := by decide +kernel
theorem dd_law_339 : decode code 339 = .ok (.iadd, 1) := by decide +kernel
theorem dd_law_340 : decode code 340 = .ok (.iaload, 1) := by decide +kernel
theorem dd_law_341 : decode code 341 = .ok (.aload_n 0, 1) := by decide +kernel
theorem dd_law_342 : decode code 342 = .ok (.iload_n 3, 1) := by decide +kernel
theorem dd_law_343 : decode code 343 = .ok (.iconst 3, 1) := by decide +kernel
theorem dd_law_344 : decode code 344 = .ok (.iadd, 1) := by decide +kernel
theorem dd_law_345 : decode code 345 = .ok (.iaload, 1) := by decide +kernel
theorem dd_law_346 : decode code 346 = .ok (.aload_n 0, 1) := by decide +kernel
theorem dd_law_347 : decode code 347 = .ok (.iload_n 3, 1) := by decide +kernel
theorem dd_law_348 : decode code 348 = .ok (.iconst 4, 1) := by decide +kernel
theorem dd_law_349 : decode code 349 = .ok (.iadd, 1) := by decide +kernel
theorem dd_law_350 : decode code 350 = .ok (.iaload, 1) := by decide +kernel
theorem dd_law_351 : decode code 351 = .ok (.invokevirtual 41, 3) := by decide +kernel
theorem dd_law_354 : decode code 354 = .ok (.pop, 1) := by decide +kernel
theorem dd_law_355 : decode code 355 = .ok (.goto 329, 3) := by decide +kernel
theorem dd_law_358 : decode code 358 = .ok (.aload_n 1, 1) := by decide +kernel
theorem dd_law_359 : decode code 359 = .ok (.aload_n 0, 1) := by decide +kernel
theorem dd_law_360 : decode code 360 = .ok (.iload_n 3, 1) := by decide +kernel
theorem dd_law_361 : decode code 361 = .ok (.iconst 1, 1) := by decide +kernel
theorem dd_law_362 : decode code 362 = .ok (.iadd, 1) := by decide +kernel
theorem dd_law_363 : decode code 363 = .ok (.iaload, 1) := by decide +kernel
theorem dd_law_364 : decode code 364 = .ok (.invokevirtual 42, 3) := by decide +kernel
theorem dd_law_367 : decode code 367 = .ok (.pop, 1) := by decide +kernel
theorem dd_law_368 : decode code 368 = .ok (.aload_n 2, 1) := by decide +kernel
theorem dd_law_369 : decode code 369 = .ok (.aload_n 0, 1) := by decide +kernel
theorem dd_law_370 : decode code 370 = .ok (.iload_n 3, 1) := by decide +kernel
theorem dd_law_371 : decode code 371 = .ok (.iconst 1, 1) := by decide +kernel
theorem dd_law_372 : decode code 372 = .ok (.iadd, 1) := by decide +kernel
theorem dd_law_373 : decode code 373 = .ok (.iaload, 1) := by decide +kernel
theorem dd_law_374 : decode code 374 = .ok (.invokevirtual 45, 3) := by decide +kernel
theorem dd_law_377 : decode code 377 = .ok (.pop, 1) := by decide +kernel
theorem dd_law_378 : decode code 378 = .ok (.goto 306, 3) := by decide +kernel
theorem dd_law_381 : decode code 381 = .ok (.aload_n 1, 1) := by decide +kernel
theorem dd_law_382 : decode code 382 = .ok (.aload_n 0, 1) := by decide +kernel
theorem dd_law_383 : decode code 383 = .ok (.iload_n 3, 1) := by decide +kernel
theorem dd_law_384 : decode code 384 = .ok (.iconst 1, 1) := by decide +kernel
theorem dd_law_385 : decode code 385 = .ok (.iadd, 1) := by decide +kernel
theorem dd_law_386 : decode code 386 = .ok (.iaload, 1) := by decide +kernel
theorem dd_law_387 : decode code 387 = .ok (.aload_n 0, 1) := by decide +kernel
theorem dd_law_388 : decode code 388 = .ok (.iload_n 3, 1) := by decide +kernel
theorem dd_law_389 : decode code 389 = .ok (.iconst 2, 1) := by decide +kernel
theorem dd_law_390 : decode code 390 = .ok (.iadd, 1) := by decide +kernel
theorem dd_law_391 : decode code 391 = .ok (.iaload, 1) := by decide +kernel
theorem dd_law_392 : decode code 392 = .ok (.invokevirtual 46, 3) := by decide +kernel
theorem dd_law_395 : decode code 395 = .ok (.pop, 1) := by decide +kernel
theorem dd_law_396 : decode code 396 = .ok (.aload_n 2, 1) := by decide +kernel
theorem dd_law_397 : decode code 397 = .ok (.aload_n 0, 1) := by decide +kernel
theorem dd_law_398 : decode code 398 = .ok (.iload_n 3, 1) := by decide +kernel
theorem dd_law_399 : decode code 399 = .ok (.iconst 1, 1) := by decide +kernel
theorem dd_law_400 : decode code 400 = .ok (.iadd, 1) := by decide +kernel
theorem dd_law_401 : decode code 401 = .ok (.iaload, 1) := by decide +kernel
theorem dd_law_402 : decode code 402 = .ok (.aload_n 0, 1) := by decide +kernel
theorem dd_law_403 : decode code 403 = .ok (.iload_n 3, 1) := by decide +kernel
theorem dd_law_404 : decode code 404 = .ok (.iconst 2, 1) := by decide +kernel
theorem dd_law_405 : decode code 405 = .ok (.iadd, 1) := by decide +kernel
theorem dd_law_406 : decode code 406 = .ok (.iaload, 1) := by decide +kernel
theorem dd_law_407 : decode code 407 = .ok (.invokevirtual 49, 3) := by decide +kernel
theorem dd_law_410 : decode code 410 = .ok (.pop, 1) := by decide +kernel
theorem dd_law_411 : decode code 411 = .ok (.goto 273, 3) := by decide +kernel
theorem dd_law_414 : decode code 414 = .ok (.aload_n 1, 1) := by decide +kernel
theorem dd_law_415 : decode code 415 = .ok (.aload_n 0, 1) := by decide +kernel
theorem dd_law_416 : decode code 416 = .ok (.iload_n 3, 1) := by decide +kernel
theorem dd_law_417 : decode code 417 = .ok (.iconst 1, 1) := by decide +kernel
theorem dd_law_418 : decode code 418 = .ok (.iadd, 1) := by decide +kernel
theorem dd_law_419 : decode code 419 = .ok (.iaload, 1) := by decide +kernel
theorem dd_law_420 : decode code 420 = .ok (.invokevirtual 50, 3) := by decide +kernel
theorem dd_law_423 : decode code 423 = .ok (.aload_n 2, 1) := by decide +kernel
theorem dd_law_424 : decode code 424 = .ok (.aload_n 0, 1) := by decide +kernel
theorem dd_law_425 : decode code 425 = .ok (.iload_n 3, 1) := by decide +kernel
theorem dd_law_426 : decode code 426 = .ok (.iconst 1, 1) := by decide +kernel
theorem dd_law_427 : decode code 427 = .ok (.iadd, 1) := by decide +kernel
theorem dd_law_428 : decode code 428 = .ok (.iaload, 1) := by decide +kernel
theorem dd_law_429 : decode code 429 = .ok (.invokevirtual 53, 3) := by decide +kernel
theorem dd_law_432 : decode code 432 = .ok (.if_icmp .eq 252, 3) := by decide +kernel
theorem dd_law_435 : decode code 435 = .ok (.iconst 0, 1) := by decide +kernel
theorem dd_law_436 : decode code 436 = .ok (.ireturn, 1) := by decide +kernel
theorem dd_law_437 : decode code 437 = .ok (.aload_n 1, 1) := by decide +kernel
theorem dd_law_438 : decode code 438 = .ok (.aload_n 0, 1) := by decide +kernel
theorem dd_law_439 : decode code 439 = .ok (.iload_n 3, 1) := by decide +kernel
theorem dd_law_440 : decode code 440 = .ok (.iconst 1, 1) := by decide +kernel
theorem dd_law_441 : decode code 441 = .ok (.iadd, 1) := by decide +kernel
theorem dd_law_442 : decode code 442 = .ok (.iaload, 1) := by decide +kernel
theorem dd_law_443 : decode code 443 = .ok (.invokevirtual 54, 3) := by decide +kernel
theorem dd_law_446 : decode code 446 = .ok (.pop, 1) := by decide +kernel
theorem dd_law_447 : decode code 447 = .ok (.aload_n 2, 1) := by decide +kernel
theorem dd_law_448 : decode code 448 = .ok (.aload_n 0, 1) := by decide +kernel
theorem dd_law_449 : decode code 449 = .ok (.iload_n 3, 1) := by decide +kernel
theorem dd_law_450 : decode code 450 = .ok (.iconst 1, 1) := by decide +kernel
theorem dd_law_451 : decode code 451 = .ok (.iadd, 1) := by decide +kernel
theorem dd_law_452 : decode code 452 = .ok (.iaload, 1) := by decide +kernel
theorem dd_law_453 : decode code 453 = .ok (.invokevirtual 57, 3) := by decide +kernel
theorem dd_law_456 : decode code 456 = .ok (.pop, 1) := by decide +kernel
theorem dd_law_457 : decode code 457 = .ok (.goto 227, 3) := by decide +kernel
theorem dd_law_460 : decode code 460 = .ok (.aload_n 1, 1) := by decide +kernel
theorem dd_law_461 : decode code 461 = .ok (.invokevirtual 58, 3) := by decide +kernel
theorem dd_law_464 : decode code 464 = .ok (.pop, 1) := by decide +kernel
theorem dd_law_465 : decode code 465 = .ok (.aload_n 2, 1) := by decide +kernel
theorem dd_law_466 : decode code 466 = .ok (.invokevirtual 62, 3) := by decide +kernel
theorem dd_law_469 : decode code 469 = .ok (.pop, 1) := by decide +kernel
theorem dd_law_470 : decode code 470 = .ok (.goto 214, 3) := by decide +kernel
theorem dd_law_473 : decode code 473 = .ok (.aload_n 1, 1) := by decide +kernel
theorem dd_law_474 : decode code 474 = .ok (.aload_n 0, 1) := by decide +kernel
theorem dd_law_475 : decode code 475 = .ok (.iload_n 3, 1) := by decide +kernel
theorem dd_law_476 : decode code 476 = .ok (.iconst 1, 1) := by decide +kernel
theorem dd_law_477 : decode code 477 = .ok (.iadd, 1) := by decide +kernel
theorem dd_law_478 : decode code 478 = .ok (.iaload, 1) := by decide +kernel
theorem dd_law_479 : decode code 479 = .ok (.invokevirtual 63, 3) := by decide +kernel
theorem dd_law_482 : decode code 482 = .ok (.pop, 1) := by decide +kernel
theorem dd_law_483 : decode code 483 = .ok (.aload_n 2, 1) := by decide +kernel
theorem dd_law_484 : decode code 484 = .ok (.aload_n 0, 1) := by decide +kernel
theorem dd_law_485 : decode code 485 = .ok (.iload_n 3, 1) := by decide +kernel
theorem dd_law_486 : decode code 486 = .ok (.iconst 1, 1) := by decide +kernel
theorem dd_law_487 : decode code 487 = .ok (.iadd, 1) := by decide +kernel
theorem dd_law_488 : decode code 488 = .ok (.iaload, 1) := by decide +kernel
theorem dd_law_489 : decode code 489 = .ok (.invokevirtual 66, 3) := by decide +kernel
theorem dd_law_492 : decode code 492 = .ok (.pop, 1) := by decide +kernel
theorem dd_law_493 : decode code 493 = .ok (.goto 191, 3) := by decide +kernel
theorem dd_law_496 : decode code 496 = .ok (.aload_n 1, 1) := by decide +kernel
theorem dd_law_497 : decode code 497 = .ok (.invokevirtual 67, 3) := by decide +kernel
theorem dd_law_500 : decode code 500 = .ok (.pop, 1) := by decide +kernel
theorem dd_law_501 : decode code 501 = .ok (.aload_n 2, 1) := by decide +kernel
theorem dd_law_502 : decode code 502 = .ok (.invokevirtual 70, 3) := by decide +kernel
theorem dd_law_505 : decode code 505 = .ok (.pop, 1) := by decide +kernel
theorem dd_law_506 : decode code 506 = .ok (.goto 178, 3) := by decide +kernel
theorem dd_law_509 : decode code 509 = .ok (.aload_n 1, 1) := by decide +kernel
theorem dd_law_510 : decode code 510 = .ok (.aload_n 0, 1) := by decide +kernel
theorem dd_law_511 : decode code 511 = .ok (.iload_n 3, 1) := by decide +kernel
theorem dd_law_512 : decode code 512 = .ok (.iconst 1, 1) := by decide +kernel
theorem dd_law_513 : decode code 513 = .ok (.iadd, 1) := by decide +kernel
theorem dd_law_514 : decode code 514 = .ok (.iaload, 1) := by decide +kernel
theorem dd_law_515 : decode code 515 = .ok (.invokevirtual 71, 3) := by decide +kernel
theorem dd_law_518 : decode code 518 = .ok (.pop, 1) := by decide +kernel
theorem dd_law_519 : decode code 519 = .ok (.aload_n 2, 1) := by decide +kernel
theorem dd_law_520 : decode code 520 = .ok (.aload_n 0, 1) := by decide +kernel
theorem dd_law_521 : decode code 521 = .ok (.iload_n 3, 1) := by decide +kernel
theorem dd_law_522 : decode code 522 = .ok (.iconst 1, 1) := by decide +kernel
theorem dd_law_523 : decode code 523 = .ok (.iadd, 1) := by decide +kernel
theorem dd_law_524 : decode code 524 = .ok (.iaload, 1) := by decide +kernel
theorem dd_law_525 : decode code 525 = .ok (.invokevirtual 74, 3) := by decide +kernel
theorem dd_law_528 : decode code 528 = .ok (.pop, 1) := by decide +kernel
theorem dd_law_529 : decode code 529 = .ok (.goto 155, 3) := by decide +kernel
theorem dd_law_532 : decode code 532 = .ok (.aload_n 1, 1) := by decide +kernel
theorem dd_law_533 : decode code 533 = .ok (.aload_n 0, 1) := by decide +kernel
theorem dd_law_534 : decode code 534 = .ok (.iload_n 3, 1) := by decide +kernel
theorem dd_law_535 : decode code 535 = .ok (.iconst 1, 1) := by decide +kernel
theorem dd_law_536 : decode code 536 = .ok (.iadd, 1) := by decide +kernel
theorem dd_law_537 : decode code 537 = .ok (.iaload, 1) := by decide +kernel
theorem dd_law_538 : decode code 538 = .ok (.aload_n 0, 1) := by decide +kernel
theorem dd_law_539 : decode code 539 = .ok (.iload_n 3, 1) := by decide +kernel
theorem dd_law_540 : decode code 540 = .ok (.iconst 2, 1) := by decide +kernel
theorem dd_law_541 : decode code 541 = .ok (.iadd, 1) := by decide +kernel
theorem dd_law_542 : decode code 542 = .ok (.iaload, 1) := by decide +kernel
theorem dd_law_543 : decode code 543 = .ok (.aload_n 0, 1) := by decide +kernel
theorem dd_law_544 : decode code 544 = .ok (.iload_n 3, 1) := by decide +kernel
theorem dd_law_545 : decode code 545 = .ok (.iconst 3, 1) := by decide +kernel
theorem dd_law_546 : decode code 546 = .ok (.iadd, 1) := by decide +kernel
theorem dd_law_547 : decode code 547 = .ok (.iaload, 1) := by decide +kernel
theorem dd_law_548 : decode code 548 = .ok (.invokevirtual 75, 3) := by decide +kernel
theorem dd_law_551 : decode code 551 = .ok (.pop, 1) := by decide +kernel
theorem dd_law_552 : decode code 552 = .ok (.aload_n 2, 1) := by decide +kernel
theorem dd_law_553 : decode code 553 = .ok (.aload_n 0, 1) := by decide +kernel
theorem dd_law_554 : decode code 554 = .ok (.iload_n 3, 1) := by decide +kernel
theorem dd_law_555 : decode code 555 = .ok (.iconst 1, 1) := by decide +kernel
theorem dd_law_556 : decode code 556 = .ok (.iadd, 1) := by decide +kernel
theorem dd_law_557 : decode code 557 = .ok (.iaload, 1) := by decide +kernel
theorem dd_law_558 : decode code 558 = .ok (.aload_n 0, 1) := by decide +kernel
theorem dd_law_559 : decode code 559 = .ok (.iload_n 3, 1) := by decide +kernel
theorem dd_law_560 : decode code 560 = .ok (.iconst 2, 1) := by decide +kernel
theorem dd_law_561 : decode code 561 = .ok (.iadd, 1) := by decide +kernel
theorem dd_law_562 : decode code 562 = .ok (.iaload, 1) := by decide +kernel
theorem dd_law_563 : decode code 563 = .ok (.aload_n 0, 1) := by decide +kernel
theorem dd_law_564 : decode code 564 = .ok (.iload_n 3, 1) := by decide +kernel
theorem dd_law_565 : decode code 565 = .ok (.iconst 3, 1) := by decide +kernel
theorem dd_law_566 : decode code 566 = .ok (.iadd, 1) := by decide +kernel
theorem dd_law_567 : decode code 567 = .ok (.iaload, 1) := by decide +kernel
theorem dd_law_568 : decode code 568 = .ok (.invokevirtual 78, 3) := by decide +kernel
theorem dd_law_571 : decode code 571 = .ok (.pop, 1) := by decide +kernel
theorem dd_law_572 : decode code 572 = .ok (.goto 112, 3) := by decide +kernel
theorem dd_law_575 : decode code 575 = .ok (.aload_n 1, 1) := by decide +kernel
theorem dd_law_576 : decode code 576 = .ok (.aload_n 0, 1) := by decide +kernel
theorem dd_law_577 : decode code 577 = .ok (.iload_n 3, 1) := by decide +kernel
theorem dd_law_578 : decode code 578 = .ok (.iconst 1, 1) := by decide +kernel
theorem dd_law_579 : decode code 579 = .ok (.iadd, 1) := by decide +kernel
theorem dd_law_580 : decode code 580 = .ok (.iaload, 1) := by decide +kernel
theorem dd_law_581 : decode code 581 = .ok (.aload_n 0, 1) := by decide +kernel
theorem dd_law_582 : decode code 582 = .ok (.iload_n 3, 1) := by decide +kernel
theorem dd_law_583 : decode code 583 = .ok (.iconst 2, 1) := by decide +kernel
theorem dd_law_584 : decode code 584 = .ok (.iadd, 1) := by decide +kernel
theorem dd_law_585 : decode code 585 = .ok (.iaload, 1) := by decide +kernel
theorem dd_law_586 : decode code 586 = .ok (.aload_n 0, 1) := by decide +kernel
theorem dd_law_587 : decode code 587 = .ok (.iload_n 3, 1) := by decide +kernel
theorem dd_law_588 : decode code 588 = .ok (.iconst 3, 1) := by decide +kernel
theorem dd_law_589 : decode code 589 = .ok (.iadd, 1) := by decide +kernel
theorem dd_law_590 : decode code 590 = .ok (.iaload, 1) := by decide +kernel
theorem dd_law_591 : decode code 591 = .ok (.invokevirtual 79, 3) := by decide +kernel
theorem dd_law_594 : decode code 594 = .ok (.pop, 1) := by decide +kernel
theorem dd_law_595 : decode code 595 = .ok (.aload_n 2, 1) := by decide +kernel
theorem dd_law_596 : decode code 596 = .ok (.aload_n 0, 1) := by decide +kernel
theorem dd_law_597 : decode code 597 = .ok (.iload_n 3, 1) := by decide +kernel
theorem dd_law_598 : decode code 598 = .ok (.iconst 1, 1) := by decide +kernel
theorem dd_law_599 : decode code 599 = .ok (.iadd, 1) := by decide +kernel
theorem dd_law_600 : decode code 600 = .ok (.iaload, 1) := by decide +kernel
theorem dd_law_601 : decode code 601 = .ok (.aload_n 0, 1) := by decide +kernel
theorem dd_law_602 : decode code 602 = .ok (.iload_n 3, 1) := by decide +kernel
theorem dd_law_603 : decode code 603 = .ok (.iconst 2, 1) := by decide +kernel
theorem dd_law_604 : decode code 604 = .ok (.iadd, 1) := by decide +kernel
theorem dd_law_605 : decode code 605 = .ok (.iaload, 1) := by decide +kernel
theorem dd_law_606 : decode code 606 = .ok (.aload_n 0, 1) := by decide +kernel
theorem dd_law_607 : decode code 607 = .ok (.iload_n 3, 1) := by decide +kernel
theorem dd_law_608 : decode code 608 = .ok (.iconst 3, 1) := by decide +kernel
theorem dd_law_609 : decode code 609 = .ok (.iadd, 1) := by decide +kernel
theorem dd_law_610 : decode code 610 = .ok (.iaload, 1) := by decide +kernel
theorem dd_law_611 : decode code 611 = .ok (.invokevirtual 82, 3) := by decide +kernel
theorem dd_law_614 : decode code 614 = .ok (.pop, 1) := by decide +kernel
theorem dd_law_615 : decode code 615 = .ok (.goto 69, 3) := by decide +kernel
theorem dd_law_618 : decode code 618 = .ok (.aload_n 1, 1) := by decide +kernel
theorem dd_law_619 : decode code 619 = .ok (.aload_n 0, 1) := by decide +kernel
theorem dd_law_620 : decode code 620 = .ok (.iload_n 3, 1) := by decide +kernel
theorem dd_law_621 : decode code 621 = .ok (.iconst 1, 1) := by decide +kernel
theorem dd_law_622 : decode code 622 = .ok (.iadd, 1) := by decide +kernel
theorem dd_law_623 : decode code 623 = .ok (.iaload, 1) := by decide +kernel
theorem dd_law_624 : decode code 624 = .ok (.invokevirtual 83, 3) := by decide +kernel
theorem dd_law_627 : decode code 627 = .ok (.pop, 1) := by decide +kernel
theorem dd_law_628 : decode code 628 = .ok (.aload_n 2, 1) := by decide +kernel
theorem dd_law_629 : decode code 629 = .ok (.aload_n 0, 1) := by decide +kernel
theorem dd_law_630 : decode code 630 = .ok (.iload_n 3, 1) := by decide +kernel
theorem dd_law_631 : decode code 631 = .ok (.iconst 1, 1) := by decide +kernel
theorem dd_law_632 : decode code 632 = .ok (.iadd, 1) := by decide +kernel
theorem dd_law_633 : decode code 633 = .ok (.iaload, 1) := by decide +kernel
theorem dd_law_634 : decode code 634 = .ok (.invokevirtual 86, 3) := by decide +kernel
theorem dd_law_637 : decode code 637 = .ok (.pop, 1) := by decide +kernel
theorem dd_law_638 : decode code 638 = .ok (.goto 46, 3) := by decide +kernel
theorem dd_law_641 : decode code 641 = .ok (.aload_n 1, 1) := by decide +kernel
theorem dd_law_642 : decode code 642 = .ok (.aload_n 0, 1) := by decide +kernel
theorem dd_law_643 : decode code 643 = .ok (.iload_n 3, 1) := by decide +kernel
theorem dd_law_644 : decode code 644 = .ok (.iconst 1, 1) := by decide +kernel
theorem dd_law_645 : decode code 645 = .ok (.iadd, 1) := by decide +kernel
theorem dd_law_646 : decode code 646 = .ok (.iaload, 1) := by decide +kernel
theorem dd_law_647 : decode code 647 = .ok (.aload_n 0, 1) := by decide +kernel
theorem dd_law_648 : decode code 648 = .ok (.iload_n 3, 1) := by decide +kernel
theorem dd_law_649 : decode code 649 = .ok (.iconst 2, 1) := by decide +kernel
theorem dd_law_650 : decode code 650 = .ok (.iadd, 1) := by decide +kernel
theorem dd_law_651 : decode code 651 = .ok (.iaload, 1) := by decide +kernel
theorem dd_law_652 : decode code 652 = .ok (.aload_n 0, 1) := by decide +kernel
theorem dd_law_653 : decode code 653 = .ok (.iload_n 3, 1) := by decide +kernel
theorem dd_law_654 : decode code 654 = .ok (.iconst 3, 1) := by decide +kernel
theorem dd_law_655 : decode code 655 = .ok (.iadd, 1) := by decide +kernel
theorem dd_law_656 : decode code 656 = .ok (.iaload, 1) := by decide +kernel
theorem dd_law_657 : decode code 657 = .ok (.invokevirtual 87, 3) := by decide +kernel
theorem dd_law_660 : decode code 660 = .ok (.pop, 1) := by decide +kernel
theorem dd_law_661 : decode code 661 = .ok (.aload_n 2, 1) := by decide +kernel
theorem dd_law_662 : decode code 662 = .ok (.aload_n 0, 1) := by decide +kernel
theorem dd_law_663 : decode code 663 = .ok (.iload_n 3, 1) := by decide +kernel
theorem dd_law_664 : decode code 664 = .ok (.iconst 1, 1) := by decide +kernel
theorem dd_law_665 : decode code 665 = .ok (.iadd, 1) := by decide +kernel
theorem dd_law_666 : decode code 666 = .ok (.iaload, 1) := by decide +kernel
theorem dd_law_667 : decode code 667 = .ok (.aload_n 0, 1) := by decide +kernel
theorem dd_law_668 : decode code 668 = .ok (.iload_n 3, 1) := by decide +kernel
theorem dd_law_669 : decode code 669 = .ok (.iconst 2, 1) := by decide +kernel
theorem dd_law_670 : decode code 670 = .ok (.iadd, 1) := by decide +kernel
theorem dd_law_671 : decode code 671 = .ok (.iaload, 1) := by decide +kernel
theorem dd_law_672 : decode code 672 = .ok (.aload_n 0, 1) := by decide +kernel
theorem dd_law_673 : decode code 673 = .ok (.iload_n 3, 1) := by decide +kernel
theorem dd_law_674 : decode code 674 = .ok (.iconst 3, 1) := by decide +kernel
theorem dd_law_675 : decode code 675 = .ok (.iadd, 1) := by decide +kernel
theorem dd_law_676 : decode code 676 = .ok (.iaload, 1) := by decide +kernel
theorem dd_law_677 : decode code 677 = .ok (.invokevirtual 90, 3) := by decide +kernel
theorem dd_law_680 : decode code 680 = .ok (.pop, 1) := by decide +kernel
theorem dd_law_681 : decode code 681 = .ok (.goto 3, 3) := by decide +kernel
theorem dd_law_684 : decode code 684 = .ok (.iinc 3 6, 3) := by decide +kernel
theorem dd_law_687 : decode code 687 = .ok (.goto (-669), 3) := by decide +kernel
theorem dd_law_690 : decode code 690 = .ok (.iconst 1, 1) := by decide +kernel
theorem dd_law_691 : decode code 691 = .ok (.ireturn, 1) := by decide +kernel
