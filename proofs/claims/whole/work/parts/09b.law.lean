theorem d_Law_0 : decode code 0 = .ok (.new 7, 3) := by decide +kernel
theorem d_Law_3 : decode code 3 = .ok (.dup, 1) := by decide +kernel
theorem d_Law_4 : decode code 4 = .ok (.invokespecial 9, 3) := by decide +kernel
theorem d_Law_7 : decode code 7 = .ok (.astore_n 1, 1) := by decide +kernel
theorem d_Law_8 : decode code 8 = .ok (.new 10, 3) := by decide +kernel
theorem d_Law_11 : decode code 11 = .ok (.dup, 1) := by decide +kernel
theorem d_Law_12 : decode code 12 = .ok (.invokespecial 12, 3) := by decide +kernel
theorem d_Law_15 : decode code 15 = .ok (.astore_n 2, 1) := by decide +kernel
theorem d_Law_16 : decode code 16 = .ok (.iconst 0, 1) := by decide +kernel
theorem d_Law_17 : decode code 17 = .ok (.istore_n 3, 1) := by decide +kernel
theorem d_Law_18 : decode code 18 = .ok (.iload_n 3, 1) := by decide +kernel
theorem d_Law_19 : decode code 19 = .ok (.aload_n 0, 1) := by decide +kernel
theorem d_Law_20 : decode code 20 = .ok (.arraylength, 1) := by decide +kernel
theorem d_Law_21 : decode code 21 = .ok (.iconst 5, 1) := by decide +kernel
theorem d_Law_22 : decode code 22 = .ok (.isub, 1) := by decide +kernel
theorem d_Law_23 : decode code 23 = .ok (.if_icmp .gt 622, 3) := by decide +kernel
theorem d_Law_26 : decode code 26 = .ok (.aload_n 0, 1) := by decide +kernel
theorem d_Law_27 : decode code 27 = .ok (.iload_n 3, 1) := by decide +kernel
theorem d_Law_28 : decode code 28 = .ok (.iaload, 1) := by decide +kernel
theorem d_Law_29 : decode code 29 = .ok (.bipush 15, 2) := by decide +kernel
theorem d_Law_31 : decode code 31 = .ok (.iand, 1) := by decide +kernel
theorem d_Law_32 : decode code 32 = .ok (.tableswitch 607 0 15 #[80, 113, 146, 189, 222, 275, 316, 369, 392, 425, 458, 491, 504, 527, 560, 593], 80) := by decide +kernel
theorem d_Law_112 : decode code 112 = .ok (.aload_n 1, 1) := by decide +kernel
theorem d_Law_113 : decode code 113 = .ok (.aload_n 0, 1) := by decide +kernel
theorem d_Law_114 : decode code 114 = .ok (.iload_n 3, 1) := by decide +kernel
theorem d_Law_115 : decode code 115 = .ok (.iconst 1, 1) := by decide +kernel
theorem d_Law_116 : decode code 116 = .ok (.iadd, 1) := by decide +kernel
theorem d_Law_117 : decode code 117 = .ok (.iaload, 1) := by decide +kernel
theorem d_Law_118 : decode code 118 = .ok (.aload_n 0, 1) := by decide +kernel
theorem d_Law_119 : decode code 119 = .ok (.iload_n 3, 1) := by decide +kernel
theorem d_Law_120 : decode code 120 = .ok (.iconst 2, 1) := by decide +kernel
theorem d_Law_121 : decode code 121 = .ok (.iadd, 1) := by decide +kernel
theorem d_Law_122 : decode code 122 = .ok (.iaload, 1) := by decide +kernel
theorem d_Law_123 : decode code 123 = .ok (.invokevirtual 13, 3) := by decide +kernel
theorem d_Law_126 : decode code 126 = .ok (.aload_n 2, 1) := by decide +kernel
theorem d_Law_127 : decode code 127 = .ok (.aload_n 0, 1) := by decide +kernel
theorem d_Law_128 : decode code 128 = .ok (.iload_n 3, 1) := by decide +kernel
theorem d_Law_129 : decode code 129 = .ok (.iconst 1, 1) := by decide +kernel
theorem d_Law_130 : decode code 130 = .ok (.iadd, 1) := by decide +kernel
theorem d_Law_131 : decode code 131 = .ok (.iaload, 1) := by decide +kernel
theorem d_Law_132 : decode code 132 = .ok (.aload_n 0, 1) := by decide +kernel
theorem d_Law_133 : decode code 133 = .ok (.iload_n 3, 1) := by decide +kernel
theorem d_Law_134 : decode code 134 = .ok (.iconst 2, 1) := by decide +kernel
theorem d_Law_135 : decode code 135 = .ok (.iadd, 1) := by decide +kernel
theorem d_Law_136 : decode code 136 = .ok (.iaload, 1) := by decide +kernel
theorem d_Law_137 : decode code 137 = .ok (.invokevirtual 17, 3) := by decide +kernel
theorem d_Law_140 : decode code 140 = .ok (.if_icmp .eq 499, 3) := by decide +kernel
theorem d_Law_143 : decode code 143 = .ok (.iconst 0, 1) := by decide +kernel
theorem d_Law_144 : decode code 144 = .ok (.ireturn, 1) := by decide +kernel
theorem d_Law_145 : decode code 145 = .ok (.aload_n 1, 1) := by decide +kernel
theorem d_Law_146 : decode code 146 = .ok (.aload_n 0, 1) := by decide +kernel
theorem d_Law_147 : decode code 147 = .ok (.iload_n 3, 1) := by decide +kernel
theorem d_Law_148 : decode code 148 = .ok (.iconst 1, 1) := by decide +kernel
theorem d_Law_149 : decode code 149 = .ok (.iadd, 1) := by decide +kernel
theorem d_Law_150 : decode code 150 = .ok (.iaload, 1) := by decide +kernel
theorem d_Law_151 : decode code 151 = .ok (.aload_n 0, 1) := by decide +kernel
theorem d_Law_152 : decode code 152 = .ok (.iload_n 3, 1) := by decide +kernel
theorem d_Law_153 : decode code 153 = .ok (.iconst 2, 1) := by decide +kernel
theorem d_Law_154 : decode code 154 = .ok (.iadd, 1) := by decide +kernel
theorem d_Law_155 : decode code 155 = .ok (.iaload, 1) := by decide +kernel
theorem d_Law_156 : decode code 156 = .ok (.invokevirtual 18, 3) := by decide +kernel
theorem d_Law_159 : decode code 159 = .ok (.aload_n 2, 1) := by decide +kernel
theorem d_Law_160 : decode code 160 = .ok (.aload_n 0, 1) := by decide +kernel
theorem d_Law_161 : decode code 161 = .ok (.iload_n 3, 1) := by decide +kernel
theorem d_Law_162 : decode code 162 = .ok (.iconst 1, 1) := by decide +kernel
theorem d_Law_163 : decode code 163 = .ok (.iadd, 1) := by decide +kernel
theorem d_Law_164 : decode code 164 = .ok (.iaload, 1) := by decide +kernel
theorem d_Law_165 : decode code 165 = .ok (.aload_n 0, 1) := by decide +kernel
theorem d_Law_166 : decode code 166 = .ok (.iload_n 3, 1) := by decide +kernel
theorem d_Law_167 : decode code 167 = .ok (.iconst 2, 1) := by decide +kernel
theorem d_Law_168 : decode code 168 = .ok (.iadd, 1) := by decide +kernel
theorem d_Law_169 : decode code 169 = .ok (.iaload, 1) := by decide +kernel
theorem d_Law_170 : decode code 170 = .ok (.invokevirtual 21, 3) := by decide +kernel
theorem d_Law_173 : decode code 173 = .ok (.if_icmp .eq 466, 3) := by decide +kernel
theorem d_Law_176 : decode code 176 = .ok (.iconst 0, 1) := by decide +kernel
theorem d_Law_177 : decode code 177 = .ok (.ireturn, 1) := by decide +kernel
theorem d_Law_178 : decode code 178 = .ok (.aload_n 1, 1) := by decide +kernel
theorem d_Law_179 : decode code 179 = .ok (.aload_n 0, 1) := by decide +kernel
theorem d_Law_180 : decode code 180 = .ok (.iload_n 3, 1) := by decide +kernel
theorem d_Law_181 : decode code 181 = .ok (.iconst 1, 1) := by decide +kernel
theorem d_Law_182 : decode code 182 = .ok (.iadd, 1) := by decide +kernel
theorem d_Law_183 : decode code 183 = .ok (.iaload, 1) := by decide +kernel
theorem d_Law_184 : decode code 184 = .ok (.aload_n 0, 1) := by decide +kernel
theorem d_Law_185 : decode code 185 = .ok (.iload_n 3, 1) := by decide +kernel
theorem d_Law_186 : decode code 186 = .ok (.iconst 2, 1) := by decide +kernel
theorem d_Law_187 : decode code 187 = .ok (.iadd, 1) := by decide +kernel
theorem d_Law_188 : decode code 188 = .ok (.iaload, 1) := by decide +kernel
theorem d_Law_189 : decode code 189 = .ok (.aload_n 0, 1) := by decide +kernel
theorem d_Law_190 : decode code 190 = .ok (.iload_n 3, 1) := by decide +kernel
theorem d_Law_191 : decode code 191 = .ok (.iconst 3, 1) := by decide +kernel
theorem d_Law_192 : decode code 192 = .ok (.iadd, 1) := by decide +kernel
theorem d_Law_193 : decode code 193 = .ok (.iaload, 1) := by decide +kernel
theorem d_Law_194 : decode code 194 = .ok (.invokevirtual 22, 3) := by decide +kernel
theorem d_Law_197 : decode code 197 = .ok (.aload_n 2, 1) := by decide +kernel
theorem d_Law_198 : decode code 198 = .ok (.aload_n 0, 1) := by decide +kernel
theorem d_Law_199 : decode code 199 = .ok (.iload_n 3, 1) := by decide +kernel
theorem d_Law_200 : decode code 200 = .ok (.iconst 1, 1) := by decide +kernel
theorem d_Law_201 : decode code 201 = .ok (.iadd, 1) := by decide +kernel
theorem d_Law_202 : decode code 202 = .ok (.iaload, 1) := by decide +kernel
theorem d_Law_203 : decode code 203 = .ok (.aload_n 0, 1) := by decide +kernel
theorem d_Law_204 : decode code 204 = .ok (.iload_n 3, 1) := by decide +kernel
theorem d_Law_205 : decode code 205 = .ok (.iconst 2, 1) := by decide +kernel
theorem d_Law_206 : decode code 206 = .ok (.iadd, 1) := by decide +kernel
theorem d_Law_207 : decode code 207 = .ok (.iaload, 1) := by decide +kernel
theorem d_Law_208 : decode code 208 = .ok (.aload_n 0, 1) := by decide +kernel
theorem d_Law_209 : decode code 209 = .ok (.iload_n 3, 1) := by decide +kernel
theorem d_Law_210 : decode code 210 = .ok (.iconst 3, 1) := by decide +kernel
theorem d_Law_211 : decode code 211 = .ok (.iadd, 1) := by decide +kernel
theorem d_Law_212 : decode code 212 = .ok (.iaload, 1) := by decide +kernel
theorem d_Law_213 : decode code 213 = .ok (.invokevirtual 26, 3) := by decide +kernel
theorem d_Law_216 : decode code 216 = .ok (.if_icmp .eq 423, 3) := by decide +kernel
theorem d_Law_219 : decode code 219 = .ok (.iconst 0, 1) := by decide +kernel
theorem d_Law_220 : decode code 220 = .ok (.ireturn, 1) := by decide +kernel
theorem d_Law_221 : decode code 221 = .ok (.aload_n 1, 1) := by decide +kernel
theorem d_Law_222 : decode code 222 = .ok (.aload_n 0, 1) := by decide +kernel
theorem d_Law_223 : decode code 223 = .ok (.iload_n 3, 1) := by decide +kernel
theorem d_Law_224 : decode code 224 = .ok (.iconst 1, 1) := by decide +kernel
theorem d_Law_225 : decode code 225 = .ok (.iadd, 1) := by decide +kernel
theorem d_Law_226 : decode code 226 = .ok (.iaload, 1) := by decide +kernel
theorem d_Law_227 : decode code 227 = .ok (.aload_n 0, 1) := by decide +kernel
theorem d_Law_228 : decode code 228 = .ok (.iload_n 3, 1) := by decide +kernel
theorem d_Law_229 : decode code 229 = .ok (.iconst 2, 1) := by decide +kernel
theorem d_Law_230 : decode code 230 = .ok (.iadd, 1) := by decide +kernel
theorem d_Law_231 : decode code 231 = .ok (.iaload, 1) := by decide +kernel
theorem d_Law_232 : decode code 232 = .ok (.invokevirtual 27, 3) := by decide +kernel
theorem d_Law_235 : decode code 235 = .ok (.aload_n 2, 1) := by decide +kernel
theorem d_Law_236 : decode code 236 = .ok (.aload_n 0, 1) := by decide +kernel
theorem d_Law_237 : decode code 237 = .ok (.iload_n 3, 1) := by decide +kernel
theorem d_Law_238 : decode code 238 = .ok (.iconst 1, 1) := by decide +kernel
theorem d_Law_239 : decode code 239 = .ok (.iadd, 1) := by decide +kernel
theorem d_Law_240 : decode code 240 = .ok (.iaload, 1) := by decide +kernel
theorem d_Law_241 : decode code 241 = .ok (.aload_n 0, 1) := by decide +kernel
theorem d_Law_242 : decode code 242 = .ok (.iload_n 3, 1) := by decide +kernel
theorem d_Law_243 : decode code 243 = .ok (.iconst 2, 1) := by decide +kernel
theorem d_Law_244 : decode code 244 = .ok (.iadd, 1) := by decide +kernel
theorem d_Law_245 : decode code 245 = .ok (.iaload, 1) := by decide +kernel
theorem d_Law_246 : decode code 246 = .ok (.invokevirtual 30, 3) := by decide +kernel
theorem d_Law_249 : decode code 249 = .ok (.if_icmp .eq 390, 3) := by decide +kernel
theorem d_Law_252 : decode code 252 = .ok (.iconst 0, 1) := by decide +kernel
theorem d_Law_253 : decode code 253 = .ok (.ireturn, 1) := by decide +kernel
theorem d_Law_254 : decode code 254 = .ok (.aload_n 1, 1) := by decide +kernel
theorem d_Law_255 : decode code 255 = .ok (.aload_n 0, 1) := by decide +kernel
theorem d_Law_256 : decode code 256 = .ok (.iload_n 3, 1) := by decide +kernel
theorem d_Law_257 : decode code 257 = .ok (.iconst 1, 1) := by decide +kernel
theorem d_Law_258 : decode code 258 = .ok (.iadd, 1) := by decide +kernel
theorem d_Law_259 : decode code 259 = .ok (.iaload, 1) := by decide +kernel
theorem d_Law_260 : decode code 260 = .ok (.aload_n 0, 1) := by decide +kernel
theorem d_Law_261 : decode code 261 = .ok (.iload_n 3, 1) := by decide +kernel
theorem d_Law_262 : decode code 262 = .ok (.iconst 2, 1) := by decide +kernel
theorem d_Law_263 : decode code 263 = .ok (.iadd, 1) := by decide +kernel
theorem d_Law_264 : decode code 264 = .ok (.iaload, 1) := by decide +kernel
theorem d_Law_265 : decode code 265 = .ok (.aload_n 0, 1) := by decide +kernel
theorem d_Law_266 : decode code 266 = .ok (.iload_n 3, 1) := by decide +kernel
theorem d_Law_267 : decode code 267 = .ok (.iconst 3, 1) := by decide +kernel
theorem d_Law_268 : decode code 268 = .ok (.iadd, 1) := by decide +kernel
theorem d_Law_269 : decode code 269 = .ok (.iaload, 1) := by decide +kernel
theorem d_Law_270 : decode code 270 = .ok (.aload_n 0, 1) := by decide +kernel
theorem d_Law_271 : decode code 271 = .ok (.iload_n 3, 1) := by decide +kernel
theorem d_Law_272 : decode code 272 = .ok (.iconst 4, 1) := by decide +kernel
theorem d_Law_273 : decode code 273 = .ok (.iadd, 1) := by decide +kernel
theorem d_Law_274 : decode code 274 = .ok (.iaload, 1) := by decide +kernel
theorem d_Law_275 : decode code 275 = .ok (.invokevirtual 31, 3) := by decide +kernel
theorem d_Law_278 : decode code 278 = .ok (.aload_n 2, 1) := by decide +kernel
theorem d_Law_279 : decode code 279 = .ok (.aload_n 0, 1) := by decide +kernel
theorem d_Law_280 : decode code 280 = .ok (.iload_n 3, 1) := by decide +kernel
theorem d_Law_281 : decode code 281 = .ok (.iconst 1, 1) := by decide +kernel
theorem d_Law_282 : decode code 282 = .ok (.iadd, 1) := by decide +kernel
theorem d_Law_283 : decode code 283 = .ok (.iaload, 1) := by decide +kernel
theorem d_Law_284 : decode code 284 = .ok (.aload_n 0, 1) := by decide +kernel
theorem d_Law_285 : decode code 285 = .ok (.iload_n 3, 1) := by decide +kernel
theorem d_Law_286 : decode code 286 = .ok (.iconst 2, 1) := by decide +kernel
theorem d_Law_287 : decode code 287 = .ok (.iadd, 1) := by decide +kernel
theorem d_Law_288 : decode code 288 = .ok (.iaload, 1) := by decide +kernel
theorem d_Law_289 : decode code 289 = .ok (.aload_n 0, 1) := by decide +kernel
theorem d_Law_290 : decode code 290 = .ok (.iload_n 3, 1) := by decide +kernel
theorem d_Law_291 : decode code 291 = .ok (.iconst 3, 1) := by decide +kernel
theorem d_Law_292 : decode code 292 = .ok (.iadd, 1) := by decide +kernel
theorem d_Law_293 : decode code 293 = .ok (.iaload, 1) := by decide +kernel
theorem d_Law_294 : decode code 294 = .ok (.aload_n 0, 1) := by decide +kernel
theorem d_Law_295 : decode code 295 = .ok (.iload_n 3, 1) := by decide +kernel
theorem d_Law_296 : decode code 296 = .ok (.iconst 4, 1) := by decide +kernel
theorem d_Law_297 : decode code 297 = .ok (.iadd, 1) := by decide +kernel
theorem d_Law_298 : decode code 298 = .ok (.iaload, 1) := by decide +kernel
theorem d_Law_299 : decode code 299 = .ok (.invokevirtual 35, 3) := by decide +kernel
theorem d_Law_302 : decode code 302 = .ok (.if_icmp .eq 337, 3) := by decide +kernel
theorem d_Law_305 : decode code 305 = .ok (.iconst 0, 1) := by decide +kernel
theorem d_Law_306 : decode code 306 = .ok (.ireturn, 1) := by decide +kernel
theorem d_Law_307 : decode code 307 = .ok (.aload_n 1, 1) := by decide +kernel
theorem d_Law_308 : decode code 308 = .ok (.aload_n 0, 1) := by decide +kernel
theorem d_Law_309 : decode code 309 = .ok (.iload_n 3, 1) := by decide +kernel
theorem d_Law_310 : decode code 310 = .ok (.iconst 1, 1) := by decide +kernel
theorem d_Law_311 : decode code 311 = .ok (.iadd, 1) := by decide +kernel
theorem d_Law_312 : decode code 312 = .ok (.iaload, 1) := by decide +kernel
theorem d_Law_313 : decode code 313 = .ok (.aload_n 0, 1) := by decide +kernel
theorem d_Law_314 : decode code 314 = .ok (.iload_n 3, 1) := by decide +kernel
theorem d_Law_315 : decode code 315 = .ok (.iconst 2, 1) := by decide +kernel
theorem d_Law_316 : decode code 316 = .ok (.iadd, 1) := by decide +kernel
theorem d_Law_317 : decode code 317 = .ok (.iaload, 1) := by decide +kernel
theorem d_Law_318 : decode code 318 = .ok (.aload_n 0, 1) := by decide +kernel
theorem d_Law_319 : decode code 319 = .ok (.iload_n 3, 1) := by decide +kernel
theorem d_Law_320 : decode code 320 = .ok (.iconst 3, 1) := by decide +kernel
theorem d_Law_321 : decode code 321 = .ok (.iadd, 1) := by decide +kernel
theorem d_Law_322 : decode code 322 = .ok (.iaload, 1) := by decide +kernel
theorem d_Law_323 : decode code 323 = .ok (.invokevirtual 36, 3) := by decide +kernel
theorem d_Law_326 : decode code 326 = .ok (.aload_n 2, 1) := by decide +kernel
theorem d_Law_327 : decode code 327 = .ok (.aload_n 0, 1) := by decide +kernel
theorem d_Law_328 : decode code 328 = .ok (.iload_n 3, 1) := by decide +kernel
theorem d_Law_329 : decode code 329 = .ok (.iconst 1, 1) := by decide +kernel
theorem d_Law_330 : decode code 330 = .ok (.iadd, 1) := by decide +kernel
theorem d_Law_331 : decode code 331 = .ok (.iaload, 1) := by decide +kernel
theorem d_Law_332 : decode code 332 = .ok (.aload_n 0, 1) := by decide +kernel
theorem d_Law_333 : decode code 333 = .ok (.iload_n 3, 1) := by decide +kernel
theorem d_Law_334 : decode code 334 = .ok (.iconst 2, 1) := by decide +kernel
theorem d_Law_335 : decode code 335 = .ok (.iadd, 1) := by decide +kernel
theorem d_Law_336 : decode code 336 = .ok (.iaload, 1) := by decide +kernel
theorem d_Law_337 : decode code 337 = .ok (.aload_n 0, 1) := by decide +kernel
theorem d_Law_338 : decode code 338 = .ok (.iload_n 3, 1) := by decide +kernel
theorem d_Law_339 : decode code 339 = .ok (.iconst 3, 1) := by decide +kernel
theorem d_Law_340 : decode code 340 = .ok (.iadd, 1) := by decide +kernel
theorem d_Law_341 : decode code 341 = .ok (.iaload, 1) := by decide +kernel
theorem d_Law_342 : decode code 342 = .ok (.invokevirtual 40, 3) := by decide +kernel
theorem d_Law_345 : decode code 345 = .ok (.goto 294, 3) := by decide +kernel
theorem d_Law_348 : decode code 348 = .ok (.aload_n 1, 1) := by decide +kernel
theorem d_Law_349 : decode code 349 = .ok (.aload_n 0, 1) := by decide +kernel
theorem d_Law_350 : decode code 350 = .ok (.iload_n 3, 1) := by decide +kernel
theorem d_Law_351 : decode code 351 = .ok (.iconst 1, 1) := by decide +kernel
theorem d_Law_352 : decode code 352 = .ok (.iadd, 1) := by decide +kernel
theorem d_Law_353 : decode code 353 = .ok (.iaload, 1) := by decide +kernel
theorem d_Law_354 : decode code 354 = .ok (.aload_n 0, 1) := by decide +kernel
theorem d_Law_355 : decode code 355 = .ok (.iload_n 3, 1) := by decide +kernel
theorem d_Law_356 : decode code 356 = .ok (.iconst 2, 1) := by decide +kernel
theorem d_Law_357 : decode code 357 = .ok (.iadd, 1) := by decide +kernel
theorem d_Law_358 : decode code 358 = .ok (.iaload, 1) := by decide +kernel
theorem d_Law_359 : decode code 359 = .ok (.aload_n 0, 1) := by decide +kernel
theorem d_Law_360 : decode code 360 = .ok (.iload_n 3, 1) := by decide +kernel
theorem d_Law_361 : decode code 361 = .ok (.iconst 3, 1) := by decide +kernel
theorem d_Law_362 : decode code 362 = .ok (.iadd, 1) := by decide +kernel
theorem d_Law_363 : decode code 363 = .ok (.iaload, 1) := by decide +kernel
theorem d_Law_364 : decode code 364 = .ok (.aload_n 0, 1) := by decide +kernel
theorem d_Law_365 : decode code 365 = .ok (.iload_n 3, 1) := by decide +kernel
theorem d_Law_366 : decode code 366 = .ok (.iconst 4, 1) := by decide +kernel
theorem d_Law_367 : decode code 367 = .ok (.iadd, 1) := by decide +kernel
theorem d_Law_368 : decode code 368 = .ok (.iaload, 1) := by decide +kernel
theorem d_Law_369 : decode code 369 = .ok (.invokevirtual 41, 3) := by decide +kernel
theorem d_Law_372 : decode code 372 = .ok (.aload_n 2, 1) := by decide +kernel
theorem d_Law_373 : decode code 373 = .ok (.aload_n 0, 1) := by decide +kernel
theorem d_Law_374 : decode code 374 = .ok (.iload_n 3, 1) := by decide +kernel
theorem d_Law_375 : decode code 375 = .ok (.iconst 1, 1) := by decide +kernel
theorem d_Law_376 : decode code 376 = .ok (.iadd, 1) := by decide +kernel
theorem d_Law_377 : decode code 377 = .ok (.iaload, 1) := by decide +kernel
theorem d_Law_378 : decode code 378 = .ok (.aload_n 0, 1) := by decide +kernel
theorem d_Law_379 : decode code 379 = .ok (.iload_n 3, 1) := by decide +kernel
theorem d_Law_380 : decode code 380 = .ok (.iconst 2, 1) := by decide +kernel
theorem d_Law_381 : decode code 381 = .ok (.iadd, 1) := by decide +kernel
theorem d_Law_382 : decode code 382 = .ok (.iaload, 1) := by decide +kernel
theorem d_Law_383 : decode code 383 = .ok (.aload_n 0, 1) := by decide +kernel
theorem d_Law_384 : decode code 384 = .ok (.iload_n 3, 1) := by decide +kernel
theorem d_Law_385 : decode code 385 = .ok (.iconst 3, 1) := by decide +kernel
theorem d_Law_386 : decode code 386 = .ok (.iadd, 1) := by decide +kernel
theorem d_Law_387 : decode code 387 = .ok (.iaload, 1) := by decide +kernel
theorem d_Law_388 : decode code 388 = .ok (.aload_n 0, 1) := by decide +kernel
theorem d_Law_389 : decode code 389 = .ok (.iload_n 3, 1) := by decide +kernel
theorem d_Law_390 : decode code 390 = .ok (.iconst 4, 1) := by decide +kernel
theorem d_Law_391 : decode code 391 = .ok (.iadd, 1) := by decide +kernel
theorem d_Law_392 : decode code 392 = .ok (.iaload, 1) := by decide +kernel
theorem d_Law_393 : decode code 393 = .ok (.invokevirtual 44, 3) := by decide +kernel
theorem d_Law_396 : decode code 396 = .ok (.if_icmp .eq 243, 3) := by decide +kernel
theorem d_Law_399 : decode code 399 = .ok (.iconst 0, 1) := by decide +kernel
theorem d_Law_400 : decode code 400 = .ok (.ireturn, 1) := by decide +kernel
theorem d_Law_401 : decode code 401 = .ok (.aload_n 1, 1) := by decide +kernel
theorem d_Law_402 : decode code 402 = .ok (.aload_n 0, 1) := by decide +kernel
theorem d_Law_403 : decode code 403 = .ok (.iload_n 3, 1) := by decide +kernel
theorem d_Law_404 : decode code 404 = .ok (.iconst 1, 1) := by decide +kernel
theorem d_Law_405 : decode code 405 = .ok (.iadd, 1) := by decide +kernel
theorem d_Law_406 : decode code 406 = .ok (.iaload, 1) := by decide +kernel
theorem d_Law_407 : decode code 407 = .ok (.invokevirtual 45, 3) := by decide +kernel
theorem d_Law_410 : decode code 410 = .ok (.aload_n 2, 1) := by decide +kernel
theorem d_Law_411 : decode code 411 = .ok (.aload_n 0, 1) := by decide +kernel
theorem d_Law_412 : decode code 412 = .ok (.iload_n 3, 1) := by decide +kernel
theorem d_Law_413 : decode code 413 = .ok (.iconst 1, 1) := by decide +kernel
theorem d_Law_414 : decode code 414 = .ok (.iadd, 1) := by decide +kernel
theorem d_Law_415 : decode code 415 = .ok (.iaload, 1) := by decide +kernel
theorem d_Law_416 : decode code 416 = .ok (.invokevirtual 49, 3) := by decide +kernel
theorem d_Law_419 : decode code 419 = .ok (.if_icmp .eq 220, 3) := by decide +kernel
theorem d_Law_422 : decode code 422 = .ok (.iconst 0, 1) := by decide +kernel
theorem d_Law_423 : decode code 423 = .ok (.ireturn, 1) := by decide +kernel
theorem d_Law_424 : decode code 424 = .ok (.aload_n 1, 1) := by decide +kernel
theorem d_Law_425 : decode code 425 = .ok (.aload_n 0, 1) := by decide +kernel
theorem d_Law_426 : decode code 426 = .ok (.iload_n 3, 1) := by decide +kernel
theorem d_Law_427 : decode code 427 = .ok (.iconst 1, 1) := by decide +kernel
theorem d_Law_428 : decode code 428 = .ok (.iadd, 1) := by decide +kernel
theorem d_Law_429 : decode code 429 = .ok (.iaload, 1) := by decide +kernel
theorem d_Law_430 : decode code 430 = .ok (.aload_n 0, 1) := by decide +kernel
theorem d_Law_431 : decode code 431 = .ok (.iload_n 3, 1) := by decide +kernel
theorem d_Law_432 : decode code 432 = .ok (.iconst 2, 1) := by decide +kernel
theorem d_Law_433 : decode code 433 = .ok (.iadd, 1) := by decide +kernel
theorem d_Law_434 : decode code 434 = .ok (.iaload, 1) := by decide +kernel
theorem d_Law_435 : decode code 435 = .ok (.invokevirtual 50, 3) := by decide +kernel
theorem d_Law_438 : decode code 438 = .ok (.aload_n 2, 1) := by decide +kernel
theorem d_Law_439 : decode code 439 = .ok (.aload_n 0, 1) := by decide +kernel
theorem d_Law_440 : decode code 440 = .ok (.iload_n 3, 1) := by decide +kernel
theorem d_Law_441 : decode code 441 = .ok (.iconst 1, 1) := by decide +kernel
theorem d_Law_442 : decode code 442 = .ok (.iadd, 1) := by decide +kernel
theorem d_Law_443 : decode code 443 = .ok (.iaload, 1) := by decide +kernel
theorem d_Law_444 : decode code 444 = .ok (.aload_n 0, 1) := by decide +kernel
theorem d_Law_445 : decode code 445 = .ok (.iload_n 3, 1) := by decide +kernel
theorem d_Law_446 : decode code 446 = .ok (.iconst 2, 1) := by decide +kernel
theorem d_Law_447 : decode code 447 = .ok (.iadd, 1) := by decide +kernel
theorem d_Law_448 : decode code 448 = .ok (.iaload, 1) := by decide +kernel
theorem d_Law_449 : decode code 449 = .ok (.invokevirtual 54, 3) := by decide +kernel
theorem d_Law_452 : decode code 452 = .ok (.if_icmp .eq 187, 3) := by decide +kernel
theorem d_Law_455 : decode code 455 = .ok (.iconst 0, 1) := by decide +kernel
theorem d_Law_456 : decode code 456 = .ok (.ireturn, 1) := by decide +kernel
theorem d_Law_457 : decode code 457 = .ok (.aload_n 1, 1) := by decide +kernel
theorem d_Law_458 : decode code 458 = .ok (.aload_n 0, 1) := by decide +kernel
theorem d_Law_459 : decode code 459 = .ok (.iload_n 3, 1) := by decide +kernel
theorem d_Law_460 : decode code 460 = .ok (.iconst 1, 1) := by decide +kernel
theorem d_Law_461 : decode code 461 = .ok (.iadd, 1) := by decide +kernel
theorem d_Law_462 : decode code 462 = .ok (.iaload, 1) := by decide +kernel
theorem d_Law_463 : decode code 463 = .ok (.aload_n 0, 1) := by decide +kernel
theorem d_Law_464 : decode code 464 = .ok (.iload_n 3, 1) := by decide +kernel
theorem d_Law_465 : decode code 465 = .ok (.iconst 2, 1) := by decide +kernel
theorem d_Law_466 : decode code 466 = .ok (.iadd, 1) := by decide +kernel
theorem d_Law_467 : decode code 467 = .ok (.iaload, 1) := by decide +kernel
theorem d_Law_468 : decode code 468 = .ok (.invokevirtual 55, 3) := by decide +kernel
theorem d_Law_471 : decode code 471 = .ok (.aload_n 2, 1) := by decide +kernel
theorem d_Law_472 : decode code 472 = .ok (.aload_n 0, 1) := by decide +kernel
theorem d_Law_473 : decode code 473 = .ok (.iload_n 3, 1) := by decide +kernel
theorem d_Law_474 : decode code 474 = .ok (.iconst 1, 1) := by decide +kernel
theorem d_Law_475 : decode code 475 = .ok (.iadd, 1) := by decide +kernel
theorem d_Law_476 : decode code 476 = .ok (.iaload, 1) := by decide +kernel
theorem d_Law_477 : decode code 477 = .ok (.aload_n 0, 1) := by decide +kernel
theorem d_Law_478 : decode code 478 = .ok (.iload_n 3, 1) := by decide +kernel
theorem d_Law_479 : decode code 479 = .ok (.iconst 2, 1) := by decide +kernel
theorem d_Law_480 : decode code 480 = .ok (.iadd, 1) := by decide +kernel
theorem d_Law_481 : decode code 481 = .ok (.iaload, 1) := by decide +kernel
theorem d_Law_482 : decode code 482 = .ok (.invokevirtual 58, 3) := by decide +kernel
theorem d_Law_485 : decode code 485 = .ok (.if_icmp .eq 154, 3) := by decide +kernel
theorem d_Law_488 : decode code 488 = .ok (.iconst 0, 1) := by decide +kernel
theorem d_Law_489 : decode code 489 = .ok (.ireturn, 1) := by decide +kernel
theorem d_Law_490 : decode code 490 = .ok (.aload_n 1, 1) := by decide +kernel
theorem d_Law_491 : decode code 491 = .ok (.aload_n 0, 1) := by decide +kernel
theorem d_Law_492 : decode code 492 = .ok (.iload_n 3, 1) := by decide +kernel
theorem d_Law_493 : decode code 493 = .ok (.iconst 1, 1) := by decide +kernel
theorem d_Law_494 : decode code 494 = .ok (.iadd, 1) := by decide +kernel
theorem d_Law_495 : decode code 495 = .ok (.iaload, 1) := by decide +kernel
theorem d_Law_496 : decode code 496 = .ok (.aload_n 0, 1) := by decide +kernel
theorem d_Law_497 : decode code 497 = .ok (.iload_n 3, 1) := by decide +kernel
theorem d_Law_498 : decode code 498 = .ok (.iconst 2, 1) := by decide +kernel
theorem d_Law_499 : decode code 499 = .ok (.iadd, 1) := by decide +kernel
theorem d_Law_500 : decode code 500 = .ok (.iaload, 1) := by decide +kernel
theorem d_Law_501 : decode code 501 = .ok (.invokevirtual 59, 3) := by decide +kernel
theorem d_Law_504 : decode code 504 = .ok (.aload_n 2, 1) := by decide +kernel
theorem d_Law_505 : decode code 505 = .ok (.aload_n 0, 1) := by decide +kernel
theorem d_Law_506 : decode code 506 = .ok (.iload_n 3, 1) := by decide +kernel
theorem d_Law_507 : decode code 507 = .ok (.iconst 1, 1) := by decide +kernel
theorem d_Law_508 : decode code 508 = .ok (.iadd, 1) := by decide +kernel
theorem d_Law_509 : decode code 509 = .ok (.iaload, 1) := by decide +kernel
theorem d_Law_510 : decode code 510 = .ok (.aload_n 0, 1) := by decide +kernel
theorem d_Law_511 : decode code 511 = .ok (.iload_n 3, 1) := by decide +kernel
theorem d_Law_512 : decode code 512 = .ok (.iconst 2, 1) := by decide +kernel
theorem d_Law_513 : decode code 513 = .ok (.iadd, 1) := by decide +kernel
theorem d_Law_514 : decode code 514 = .ok (.iaload, 1) := by decide +kernel
theorem d_Law_515 : decode code 515 = .ok (.invokevirtual 62, 3) := by decide +kernel
theorem d_Law_518 : decode code 518 = .ok (.if_icmp .eq 121, 3) := by decide +kernel
theorem d_Law_521 : decode code 521 = .ok (.iconst 0, 1) := by decide +kernel
theorem d_Law_522 : decode code 522 = .ok (.ireturn, 1) := by decide +kernel
theorem d_Law_523 : decode code 523 = .ok (.aload_n 1, 1) := by decide +kernel
theorem d_Law_524 : decode code 524 = .ok (.invokevirtual 63, 3) := by decide +kernel
theorem d_Law_527 : decode code 527 = .ok (.aload_n 2, 1) := by decide +kernel
theorem d_Law_528 : decode code 528 = .ok (.invokevirtual 67, 3) := by decide +kernel
theorem d_Law_531 : decode code 531 = .ok (.if_icmp .eq 108, 3) := by decide +kernel
theorem d_Law_534 : decode code 534 = .ok (.iconst 0, 1) := by decide +kernel
theorem d_Law_535 : decode code 535 = .ok (.ireturn, 1) := by decide +kernel
theorem d_Law_536 : decode code 536 = .ok (.aload_n 1, 1) := by decide +kernel
theorem d_Law_537 : decode code 537 = .ok (.aload_n 0, 1) := by decide +kernel
theorem d_Law_538 : decode code 538 = .ok (.iload_n 3, 1) := by decide +kernel
theorem d_Law_539 : decode code 539 = .ok (.iconst 1, 1) := by decide +kernel
theorem d_Law_540 : decode code 540 = .ok (.iadd, 1) := by decide +kernel
theorem d_Law_541 : decode code 541 = .ok (.iaload, 1) := by decide +kernel
theorem d_Law_542 : decode code 542 = .ok (.invokevirtual 68, 3) := by decide +kernel
theorem d_Law_545 : decode code 545 = .ok (.aload_n 2, 1) := by decide +kernel
theorem d_Law_546 : decode code 546 = .ok (.aload_n 0, 1) := by decide +kernel
theorem d_Law_547 : decode code 547 = .ok (.iload_n 3, 1) := by decide +kernel
theorem d_Law_548 : decode code 548 = .ok (.iconst 1, 1) := by decide +kernel
theorem d_Law_549 : decode code 549 = .ok (.iadd, 1) := by decide +kernel
theorem d_Law_550 : decode code 550 = .ok (.iaload, 1) := by decide +kernel
theorem d_Law_551 : decode code 551 = .ok (.invokevirtual 71, 3) := by decide +kernel
theorem d_Law_554 : decode code 554 = .ok (.if_icmp .eq 85, 3) := by decide +kernel
theorem d_Law_557 : decode code 557 = .ok (.iconst 0, 1) := by decide +kernel
theorem d_Law_558 : decode code 558 = .ok (.ireturn, 1) := by decide +kernel
theorem d_Law_559 : decode code 559 = .ok (.aload_n 1, 1) := by decide +kernel
theorem d_Law_560 : decode code 560 = .ok (.aload_n 0, 1) := by decide +kernel
theorem d_Law_561 : decode code 561 = .ok (.iload_n 3, 1) := by decide +kernel
theorem d_Law_562 : decode code 562 = .ok (.iconst 1, 1) := by decide +kernel
theorem d_Law_563 : decode code 563 = .ok (.iadd, 1) := by decide +kernel
theorem d_Law_564 : decode code 564 = .ok (.iaload, 1) := by decide +kernel
theorem d_Law_565 : decode code 565 = .ok (.aload_n 0, 1) := by decide +kernel
theorem d_Law_566 : decode code 566 = .ok (.iload_n 3, 1) := by decide +kernel
theorem d_Law_567 : decode code 567 = .ok (.iconst 2, 1) := by decide +kernel
theorem d_Law_568 : decode code 568 = .ok (.iadd, 1) := by decide +kernel
theorem d_Law_569 : decode code 569 = .ok (.iaload, 1) := by decide +kernel
theorem d_Law_570 : decode code 570 = .ok (.invokevirtual 72, 3) := by decide +kernel
theorem d_Law_573 : decode code 573 = .ok (.aload_n 2, 1) := by decide +kernel
theorem d_Law_574 : decode code 574 = .ok (.aload_n 0, 1) := by decide +kernel
theorem d_Law_575 : decode code 575 = .ok (.iload_n 3, 1) := by decide +kernel
theorem d_Law_576 : decode code 576 = .ok (.iconst 1, 1) := by decide +kernel
theorem d_Law_577 : decode code 577 = .ok (.iadd, 1) := by decide +kernel
theorem d_Law_578 : decode code 578 = .ok (.iaload, 1) := by decide +kernel
theorem d_Law_579 : decode code 579 = .ok (.aload_n 0, 1) := by decide +kernel
theorem d_Law_580 : decode code 580 = .ok (.iload_n 3, 1) := by decide +kernel
theorem d_Law_581 : decode code 581 = .ok (.iconst 2, 1) := by decide +kernel
theorem d_Law_582 : decode code 582 = .ok (.iadd, 1) := by decide +kernel
theorem d_Law_583 : decode code 583 = .ok (.iaload, 1) := by decide +kernel
theorem d_Law_584 : decode code 584 = .ok (.invokevirtual 75, 3) := by decide +kernel
theorem d_Law_587 : decode code 587 = .ok (.if_icmp .eq 52, 3) := by decide +kernel
theorem d_Law_590 : decode code 590 = .ok (.iconst 0, 1) := by decide +kernel
theorem d_Law_591 : decode code 591 = .ok (.ireturn, 1) := by decide +kernel
theorem d_Law_592 : decode code 592 = .ok (.aload_n 1, 1) := by decide +kernel
theorem d_Law_593 : decode code 593 = .ok (.aload_n 0, 1) := by decide +kernel
theorem d_Law_594 : decode code 594 = .ok (.iload_n 3, 1) := by decide +kernel
theorem d_Law_595 : decode code 595 = .ok (.iconst 1, 1) := by decide +kernel
theorem d_Law_596 : decode code 596 = .ok (.iadd, 1) := by decide +kernel
theorem d_Law_597 : decode code 597 = .ok (.iaload, 1) := by decide +kernel
theorem d_Law_598 : decode code 598 = .ok (.aload_n 0, 1) := by decide +kernel
theorem d_Law_599 : decode code 599 = .ok (.iload_n 3, 1) := by decide +kernel
theorem d_Law_600 : decode code 600 = .ok (.iconst 2, 1) := by decide +kernel
theorem d_Law_601 : decode code 601 = .ok (.iadd, 1) := by decide +kernel
theorem d_Law_602 : decode code 602 = .ok (.iaload, 1) := by decide +kernel
theorem d_Law_603 : decode code 603 = .ok (.invokevirtual 76, 3) := by decide +kernel
theorem d_Law_606 : decode code 606 = .ok (.aload_n 2, 1) := by decide +kernel
theorem d_Law_607 : decode code 607 = .ok (.aload_n 0, 1) := by decide +kernel
theorem d_Law_608 : decode code 608 = .ok (.iload_n 3, 1) := by decide +kernel
theorem d_Law_609 : decode code 609 = .ok (.iconst 1, 1) := by decide +kernel
theorem d_Law_610 : decode code 610 = .ok (.iadd, 1) := by decide +kernel
theorem d_Law_611 : decode code 611 = .ok (.iaload, 1) := by decide +kernel
theorem d_Law_612 : decode code 612 = .ok (.aload_n 0, 1) := by decide +kernel
theorem d_Law_613 : decode code 613 = .ok (.iload_n 3, 1) := by decide +kernel
theorem d_Law_614 : decode code 614 = .ok (.iconst 2, 1) := by decide +kernel
theorem d_Law_615 : decode code 615 = .ok (.iadd, 1) := by decide +kernel
theorem d_Law_616 : decode code 616 = .ok (.iaload, 1) := by decide +kernel
theorem d_Law_617 : decode code 617 = .ok (.invokevirtual 79, 3) := by decide +kernel
theorem d_Law_620 : decode code 620 = .ok (.if_icmp .eq 19, 3) := by decide +kernel
theorem d_Law_623 : decode code 623 = .ok (.iconst 0, 1) := by decide +kernel
theorem d_Law_624 : decode code 624 = .ok (.ireturn, 1) := by decide +kernel
theorem d_Law_625 : decode code 625 = .ok (.aload_n 1, 1) := by decide +kernel
theorem d_Law_626 : decode code 626 = .ok (.invokevirtual 80, 3) := by decide +kernel
theorem d_Law_629 : decode code 629 = .ok (.aload_n 2, 1) := by decide +kernel
theorem d_Law_630 : decode code 630 = .ok (.invokevirtual 84, 3) := by decide +kernel
theorem d_Law_633 : decode code 633 = .ok (.lcmp, 1) := by decide +kernel
theorem d_Law_634 : decode code 634 = .ok (.ifCond .eq 5, 3) := by decide +kernel
theorem d_Law_637 : decode code 637 = .ok (.iconst 0, 1) := by decide +kernel
theorem d_Law_638 : decode code 638 = .ok (.ireturn, 1) := by decide +kernel
theorem d_Law_639 : decode code 639 = .ok (.iinc 3 5, 3) := by decide +kernel
theorem d_Law_642 : decode code 642 = .ok (.goto (-624), 3) := by decide +kernel
theorem d_Law_645 : decode code 645 = .ok (.iconst 1, 1) := by decide +kernel
theorem d_Law_646 : decode code 646 = .ok (.ireturn, 1) := by decide +kernel
