set_option maxRecDepth 100000 in
theorem d_law_0 : decode code 0 = .ok (.new 7, 3) := by decide +kernel
set_option maxRecDepth 100000 in
theorem d_law_3 : decode code 3 = .ok (.dup, 1) := by decide +kernel
set_option maxRecDepth 100000 in
theorem d_law_4 : decode code 4 = .ok (.invokespecial 9, 3) := by decide +kernel
set_option maxRecDepth 100000 in
theorem d_law_7 : decode code 7 = .ok (.astore_n 1, 1) := by decide +kernel
set_option maxRecDepth 100000 in
theorem d_law_8 : decode code 8 = .ok (.new 10, 3) := by decide +kernel
set_option maxRecDepth 100000 in
theorem d_law_11 : decode code 11 = .ok (.dup, 1) := by decide +kernel
set_option maxRecDepth 100000 in
theorem d_law_12 : decode code 12 = .ok (.invokespecial 12, 3) := by decide +kernel
set_option maxRecDepth 100000 in
theorem d_law_15 : decode code 15 = .ok (.astore_n 2, 1) := by decide +kernel
set_option maxRecDepth 100000 in
theorem d_law_16 : decode code 16 = .ok (.iconst 0, 1) := by decide +kernel
set_option maxRecDepth 100000 in
theorem d_law_17 : decode code 17 = .ok (.istore_n 3, 1) := by decide +kernel
set_option maxRecDepth 100000 in
theorem d_law_18 : decode code 18 = .ok (.iload_n 3, 1) := by decide +kernel
set_option maxRecDepth 100000 in
theorem d_law_19 : decode code 19 = .ok (.aload_n 0, 1) := by decide +kernel
set_option maxRecDepth 100000 in
theorem d_law_20 : decode code 20 = .ok (.arraylength, 1) := by decide +kernel
set_option maxRecDepth 100000 in
theorem d_law_21 : decode code 21 = .ok (.bipush 6, 2) := by decide +kernel
set_option maxRecDepth 100000 in
theorem d_law_23 : decode code 23 = .ok (.isub, 1) := by decide +kernel
set_option maxRecDepth 100000 in
theorem d_law_24 : decode code 24 = .ok (.if_icmp .gt 1241, 3) := by decide +kernel
set_option maxRecDepth 100000 in
theorem d_law_27 : decode code 27 = .ok (.aload_n 0, 1) := by decide +kernel
set_option maxRecDepth 100000 in
theorem d_law_28 : decode code 28 = .ok (.iload_n 3, 1) := by decide +kernel
set_option maxRecDepth 100000 in
theorem d_law_29 : decode code 29 = .ok (.iaload, 1) := by decide +kernel
set_option maxRecDepth 100000 in
theorem d_law_30 : decode code 30 = .ok (.bipush 63, 2) := by decide +kernel
set_option maxRecDepth 100000 in
theorem d_law_32 : decode code 32 = .ok (.iand, 1) := by decide +kernel
set_option maxRecDepth 100000 in
theorem d_law_33 : decode code 33 = .ok (.tableswitch 1226 0 32 #[147, 170, 193, 236, 269, 302, 335, 358, 391, 434, 457, 480, 513, 546, 579, 612, 635, 698, 721, 744, 777, 840, 883, 936, 959, 1002, 1035, 1068, 1101, 1134, 1147, 1180, 1203], 147) := by decide +kernel
set_option maxRecDepth 100000 in
theorem d_law_180 : decode code 180 = .ok (.aload_n 1, 1) := by decide +kernel
set_option maxRecDepth 100000 in
theorem d_law_181 : decode code 181 = .ok (.aload_n 0, 1) := by decide +kernel
set_option maxRecDepth 100000 in
theorem d_law_182 : decode code 182 = .ok (.iload_n 3, 1) := by decide +kernel
set_option maxRecDepth 100000 in
theorem d_law_183 : decode code 183 = .ok (.iconst 1, 1) := by decide +kernel
set_option maxRecDepth 100000 in
theorem d_law_184 : decode code 184 = .ok (.iadd, 1) := by decide +kernel
set_option maxRecDepth 100000 in
theorem d_law_185 : decode code 185 = .ok (.iaload, 1) := by decide +kernel
set_option maxRecDepth 100000 in
theorem d_law_186 : decode code 186 = .ok (.invokevirtual 13, 3) := by decide +kernel
set_option maxRecDepth 100000 in
theorem d_law_189 : decode code 189 = .ok (.aload_n 2, 1) := by decide +kernel
set_option maxRecDepth 100000 in
theorem d_law_190 : decode code 190 = .ok (.aload_n 0, 1) := by decide +kernel
set_option maxRecDepth 100000 in
theorem d_law_191 : decode code 191 = .ok (.iload_n 3, 1) := by decide +kernel
set_option maxRecDepth 100000 in
theorem d_law_192 : decode code 192 = .ok (.iconst 1, 1) := by decide +kernel
set_option maxRecDepth 100000 in
theorem d_law_193 : decode code 193 = .ok (.iadd, 1) := by decide +kernel
set_option maxRecDepth 100000 in
theorem d_law_194 : decode code 194 = .ok (.iaload, 1) := by decide +kernel
set_option maxRecDepth 100000 in
theorem d_law_195 : decode code 195 = .ok (.invokevirtual 17, 3) := by decide +kernel
set_option maxRecDepth 100000 in
theorem d_law_198 : decode code 198 = .ok (.if_icmp .eq 1061, 3) := by decide +kernel
set_option maxRecDepth 100000 in
theorem d_law_203 : decode code 203 = .ok (.aload_n 1, 1) := by decide +kernel
set_option maxRecDepth 100000 in
theorem d_law_204 : decode code 204 = .ok (.aload_n 0, 1) := by decide +kernel
set_option maxRecDepth 100000 in
theorem d_law_205 : decode code 205 = .ok (.iload_n 3, 1) := by decide +kernel
set_option maxRecDepth 100000 in
theorem d_law_206 : decode code 206 = .ok (.iconst 1, 1) := by decide +kernel
set_option maxRecDepth 100000 in
theorem d_law_207 : decode code 207 = .ok (.iadd, 1) := by decide +kernel
set_option maxRecDepth 100000 in
theorem d_law_208 : decode code 208 = .ok (.iaload, 1) := by decide +kernel
set_option maxRecDepth 100000 in
theorem d_law_209 : decode code 209 = .ok (.invokevirtual 18, 3) := by decide +kernel
set_option maxRecDepth 100000 in
theorem d_law_212 : decode code 212 = .ok (.aload_n 2, 1) := by decide +kernel
set_option maxRecDepth 100000 in
theorem d_law_213 : decode code 213 = .ok (.aload_n 0, 1) := by decide +kernel
set_option maxRecDepth 100000 in
theorem d_law_214 : decode code 214 = .ok (.iload_n 3, 1) := by decide +kernel
set_option maxRecDepth 100000 in
theorem d_law_215 : decode code 215 = .ok (.iconst 1, 1) := by decide +kernel
set_option maxRecDepth 100000 in
theorem d_law_216 : decode code 216 = .ok (.iadd, 1) := by decide +kernel
set_option maxRecDepth 100000 in
theorem d_law_217 : decode code 217 = .ok (.iaload, 1) := by decide +kernel
set_option maxRecDepth 100000 in
theorem d_law_218 : decode code 218 = .ok (.invokevirtual 21, 3) := by decide +kernel
set_option maxRecDepth 100000 in
theorem d_law_221 : decode code 221 = .ok (.if_icmp .eq 1038, 3) := by decide +kernel
set_option maxRecDepth 100000 in
theorem d_law_226 : decode code 226 = .ok (.aload_n 1, 1) := by decide +kernel
set_option maxRecDepth 100000 in
theorem d_law_227 : decode code 227 = .ok (.aload_n 0, 1) := by decide +kernel
set_option maxRecDepth 100000 in
theorem d_law_228 : decode code 228 = .ok (.iload_n 3, 1) := by decide +kernel
set_option maxRecDepth 100000 in
theorem d_law_229 : decode code 229 = .ok (.iconst 1, 1) := by decide +kernel
set_option maxRecDepth 100000 in
theorem d_law_230 : decode code 230 = .ok (.iadd, 1) := by decide +kernel
set_option maxRecDepth 100000 in
theorem d_law_231 : decode code 231 = .ok (.iaload, 1) := by decide +kernel
set_option maxRecDepth 100000 in
theorem d_law_232 : decode code 232 = .ok (.aload_n 0, 1) := by decide +kernel
set_option maxRecDepth 100000 in
theorem d_law_233 : decode code 233 = .ok (.iload_n 3, 1) := by decide +kernel
set_option maxRecDepth 100000 in
theorem d_law_234 : decode code 234 = .ok (.iconst 2, 1) := by decide +kernel
set_option maxRecDepth 100000 in
theorem d_law_235 : decode code 235 = .ok (.iadd, 1) := by decide +kernel
set_option maxRecDepth 100000 in
theorem d_law_236 : decode code 236 = .ok (.iaload, 1) := by decide +kernel
set_option maxRecDepth 100000 in
theorem d_law_237 : decode code 237 = .ok (.aload_n 0, 1) := by decide +kernel
set_option maxRecDepth 100000 in
theorem d_law_238 : decode code 238 = .ok (.iload_n 3, 1) := by decide +kernel
set_option maxRecDepth 100000 in
theorem d_law_239 : decode code 239 = .ok (.iconst 3, 1) := by decide +kernel
set_option maxRecDepth 100000 in
theorem d_law_240 : decode code 240 = .ok (.iadd, 1) := by decide +kernel
set_option maxRecDepth 100000 in
theorem d_law_241 : decode code 241 = .ok (.iaload, 1) := by decide +kernel
set_option maxRecDepth 100000 in
theorem d_law_242 : decode code 242 = .ok (.invokevirtual 22, 3) := by decide +kernel
set_option maxRecDepth 100000 in
theorem d_law_245 : decode code 245 = .ok (.aload_n 2, 1) := by decide +kernel
set_option maxRecDepth 100000 in
theorem d_law_246 : decode code 246 = .ok (.aload_n 0, 1) := by decide +kernel
set_option maxRecDepth 100000 in
theorem d_law_247 : decode code 247 = .ok (.iload_n 3, 1) := by decide +kernel
set_option maxRecDepth 100000 in
theorem d_law_248 : decode code 248 = .ok (.iconst 1, 1) := by decide +kernel
set_option maxRecDepth 100000 in
theorem d_law_249 : decode code 249 = .ok (.iadd, 1) := by decide +kernel
set_option maxRecDepth 100000 in
theorem d_law_250 : decode code 250 = .ok (.iaload, 1) := by decide +kernel
set_option maxRecDepth 100000 in
theorem d_law_251 : decode code 251 = .ok (.aload_n 0, 1) := by decide +kernel
set_option maxRecDepth 100000 in
theorem d_law_252 : decode code 252 = .ok (.iload_n 3, 1) := by decide +kernel
set_option maxRecDepth 100000 in
theorem d_law_253 : decode code 253 = .ok (.iconst 2, 1) := by decide +kernel
set_option maxRecDepth 100000 in
theorem d_law_254 : decode code 254 = .ok (.iadd, 1) := by decide +kernel
set_option maxRecDepth 100000 in
theorem d_law_255 : decode code 255 = .ok (.iaload, 1) := by decide +kernel
set_option maxRecDepth 100000 in
theorem d_law_256 : decode code 256 = .ok (.aload_n 0, 1) := by decide +kernel
set_option maxRecDepth 100000 in
theorem d_law_257 : decode code 257 = .ok (.iload_n 3, 1) := by decide +kernel
set_option maxRecDepth 100000 in
theorem d_law_258 : decode code 258 = .ok (.iconst 3, 1) := by decide +kernel
set_option maxRecDepth 100000 in
theorem d_law_259 : decode code 259 = .ok (.iadd, 1) := by decide +kernel
set_option maxRecDepth 100000 in
theorem d_law_260 : decode code 260 = .ok (.iaload, 1) := by decide +kernel
set_option maxRecDepth 100000 in
theorem d_law_261 : decode code 261 = .ok (.invokevirtual 26, 3) := by decide +kernel
set_option maxRecDepth 100000 in
theorem d_law_264 : decode code 264 = .ok (.if_icmp .eq 995, 3) := by decide +kernel
set_option maxRecDepth 100000 in
theorem d_law_269 : decode code 269 = .ok (.aload_n 1, 1) := by decide +kernel
set_option maxRecDepth 100000 in
theorem d_law_270 : decode code 270 = .ok (.aload_n 0, 1) := by decide +kernel
set_option maxRecDepth 100000 in
theorem d_law_271 : decode code 271 = .ok (.iload_n 3, 1) := by decide +kernel
set_option maxRecDepth 100000 in
theorem d_law_272 : decode code 272 = .ok (.iconst 1, 1) := by decide +kernel
set_option maxRecDepth 100000 in
theorem d_law_273 : decode code 273 = .ok (.iadd, 1) := by decide +kernel
set_option maxRecDepth 100000 in
theorem d_law_274 : decode code 274 = .ok (.iaload, 1) := by decide +kernel
set_option maxRecDepth 100000 in
theorem d_law_275 : decode code 275 = .ok (.aload_n 0, 1) := by decide +kernel
set_option maxRecDepth 100000 in
theorem d_law_276 : decode code 276 = .ok (.iload_n 3, 1) := by decide +kernel
set_option maxRecDepth 100000 in
theorem d_law_277 : decode code 277 = .ok (.iconst 2, 1) := by decide +kernel
set_option maxRecDepth 100000 in
theorem d_law_278 : decode code 278 = .ok (.iadd, 1) := by decide +kernel
set_option maxRecDepth 100000 in
theorem d_law_279 : decode code 279 = .ok (.iaload, 1) := by decide +kernel
set_option maxRecDepth 100000 in
theorem d_law_280 : decode code 280 = .ok (.invokevirtual 27, 3) := by decide +kernel
set_option maxRecDepth 100000 in
theorem d_law_283 : decode code 283 = .ok (.aload_n 2, 1) := by decide +kernel
set_option maxRecDepth 100000 in
theorem d_law_284 : decode code 284 = .ok (.aload_n 0, 1) := by decide +kernel
set_option maxRecDepth 100000 in
theorem d_law_285 : decode code 285 = .ok (.iload_n 3, 1) := by decide +kernel
set_option maxRecDepth 100000 in
theorem d_law_286 : decode code 286 = .ok (.iconst 1, 1) := by decide +kernel
set_option maxRecDepth 100000 in
theorem d_law_287 : decode code 287 = .ok (.iadd, 1) := by decide +kernel
set_option maxRecDepth 100000 in
theorem d_law_288 : decode code 288 = .ok (.iaload, 1) := by decide +kernel
set_option maxRecDepth 100000 in
theorem d_law_289 : decode code 289 = .ok (.aload_n 0, 1) := by decide +kernel
set_option maxRecDepth 100000 in
theorem d_law_290 : decode code 290 = .ok (.iload_n 3, 1) := by decide +kernel
set_option maxRecDepth 100000 in
theorem d_law_291 : decode code 291 = .ok (.iconst 2, 1) := by decide +kernel
set_option maxRecDepth 100000 in
theorem d_law_292 : decode code 292 = .ok (.iadd, 1) := by decide +kernel
set_option maxRecDepth 100000 in
theorem d_law_293 : decode code 293 = .ok (.iaload, 1) := by decide +kernel
set_option maxRecDepth 100000 in
theorem d_law_294 : decode code 294 = .ok (.invokevirtual 31, 3) := by decide +kernel
set_option maxRecDepth 100000 in
theorem d_law_297 : decode code 297 = .ok (.if_icmp .eq 962, 3) := by decide +kernel
set_option maxRecDepth 100000 in
theorem d_law_302 : decode code 302 = .ok (.aload_n 1, 1) := by decide +kernel
set_option maxRecDepth 100000 in
theorem d_law_303 : decode code 303 = .ok (.aload_n 0, 1) := by decide +kernel
set_option maxRecDepth 100000 in
theorem d_law_304 : decode code 304 = .ok (.iload_n 3, 1) := by decide +kernel
set_option maxRecDepth 100000 in
theorem d_law_305 : decode code 305 = .ok (.iconst 1, 1) := by decide +kernel
set_option maxRecDepth 100000 in
theorem d_law_306 : decode code 306 = .ok (.iadd, 1) := by decide +kernel
set_option maxRecDepth 100000 in
theorem d_law_307 : decode code 307 = .ok (.iaload, 1) := by decide +kernel
set_option maxRecDepth 100000 in
theorem d_law_308 : decode code 308 = .ok (.aload_n 0, 1) := by decide +kernel
set_option maxRecDepth 100000 in
theorem d_law_309 : decode code 309 = .ok (.iload_n 3, 1) := by decide +kernel
set_option maxRecDepth 100000 in
theorem d_law_310 : decode code 310 = .ok (.iconst 2, 1) := by decide +kernel
set_option maxRecDepth 100000 in
theorem d_law_311 : decode code 311 = .ok (.iadd, 1) := by decide +kernel
set_option maxRecDepth 100000 in
theorem d_law_312 : decode code 312 = .ok (.iaload, 1) := by decide +kernel
set_option maxRecDepth 100000 in
theorem d_law_313 : decode code 313 = .ok (.invokevirtual 32, 3) := by decide +kernel
set_option maxRecDepth 100000 in
theorem d_law_316 : decode code 316 = .ok (.aload_n 2, 1) := by decide +kernel
set_option maxRecDepth 100000 in
theorem d_law_317 : decode code 317 = .ok (.aload_n 0, 1) := by decide +kernel
set_option maxRecDepth 100000 in
theorem d_law_318 : decode code 318 = .ok (.iload_n 3, 1) := by decide +kernel
set_option maxRecDepth 100000 in
theorem d_law_319 : decode code 319 = .ok (.iconst 1, 1) := by decide +kernel
set_option maxRecDepth 100000 in
theorem d_law_320 : decode code 320 = .ok (.iadd, 1) := by decide +kernel
set_option maxRecDepth 100000 in
theorem d_law_321 : decode code 321 = .ok (.iaload, 1) := by decide +kernel
set_option maxRecDepth 100000 in
theorem d_law_322 : decode code 322 = .ok (.aload_n 0, 1) := by decide +kernel
set_option maxRecDepth 100000 in
theorem d_law_323 : decode code 323 = .ok (.iload_n 3, 1) := by decide +kernel
set_option maxRecDepth 100000 in
theorem d_law_324 : decode code 324 = .ok (.iconst 2, 1) := by decide +kernel
set_option maxRecDepth 100000 in
theorem d_law_325 : decode code 325 = .ok (.iadd, 1) := by decide +kernel
set_option maxRecDepth 100000 in
theorem d_law_326 : decode code 326 = .ok (.iaload, 1) := by decide +kernel
set_option maxRecDepth 100000 in
theorem d_law_327 : decode code 327 = .ok (.invokevirtual 35, 3) := by decide +kernel
set_option maxRecDepth 100000 in
theorem d_law_330 : decode code 330 = .ok (.if_icmp .eq 929, 3) := by decide +kernel
set_option maxRecDepth 100000 in
theorem d_law_335 : decode code 335 = .ok (.aload_n 1, 1) := by decide +kernel
set_option maxRecDepth 100000 in
theorem d_law_336 : decode code 336 = .ok (.aload_n 0, 1) := by decide +kernel
set_option maxRecDepth 100000 in
theorem d_law_337 : decode code 337 = .ok (.iload_n 3, 1) := by decide +kernel
set_option maxRecDepth 100000 in
theorem d_law_338 : decode code 338 = .ok (.iconst 1, 1) := by decide +kernel
set_option maxRecDepth 100000 in
theorem d_law_339 : decode code 339 = .ok (.iadd, 1) := by decide +kernel
set_option maxRecDepth 100000 in
theorem d_law_340 : decode code 340 = .ok (.iaload, 1) := by decide +kernel
set_option maxRecDepth 100000 in
theorem d_law_341 : decode code 341 = .ok (.aload_n 0, 1) := by decide +kernel
set_option maxRecDepth 100000 in
theorem d_law_342 : decode code 342 = .ok (.iload_n 3, 1) := by decide +kernel
set_option maxRecDepth 100000 in
theorem d_law_343 : decode code 343 = .ok (.iconst 2, 1) := by decide +kernel
set_option maxRecDepth 100000 in
theorem d_law_344 : decode code 344 = .ok (.iadd, 1) := by decide +kernel
set_option maxRecDepth 100000 in
theorem d_law_345 : decode code 345 = .ok (.iaload, 1) := by decide +kernel
set_option maxRecDepth 100000 in
theorem d_law_346 : decode code 346 = .ok (.invokevirtual 36, 3) := by decide +kernel
set_option maxRecDepth 100000 in
theorem d_law_349 : decode code 349 = .ok (.aload_n 2, 1) := by decide +kernel
set_option maxRecDepth 100000 in
theorem d_law_350 : decode code 350 = .ok (.aload_n 0, 1) := by decide +kernel
set_option maxRecDepth 100000 in
theorem d_law_351 : decode code 351 = .ok (.iload_n 3, 1) := by decide +kernel
set_option maxRecDepth 100000 in
theorem d_law_352 : decode code 352 = .ok (.iconst 1, 1) := by decide +kernel
set_option maxRecDepth 100000 in
theorem d_law_353 : decode code 353 = .ok (.iadd, 1) := by decide +kernel
set_option maxRecDepth 100000 in
theorem d_law_354 : decode code 354 = .ok (.iaload, 1) := by decide +kernel
set_option maxRecDepth 100000 in
theorem d_law_355 : decode code 355 = .ok (.aload_n 0, 1) := by decide +kernel
set_option maxRecDepth 100000 in
theorem d_law_356 : decode code 356 = .ok (.iload_n 3, 1) := by decide +kernel
set_option maxRecDepth 100000 in
theorem d_law_357 : decode code 357 = .ok (.iconst 2, 1) := by decide +kernel
set_option maxRecDepth 100000 in
theorem d_law_358 : decode code 358 = .ok (.iadd, 1) := by decide +kernel
set_option maxRecDepth 100000 in
theorem d_law_359 : decode code 359 = .ok (.iaload, 1) := by decide +kernel
set_option maxRecDepth 100000 in
theorem d_law_360 : decode code 360 = .ok (.invokevirtual 39, 3) := by decide +kernel
set_option maxRecDepth 100000 in
theorem d_law_363 : decode code 363 = .ok (.if_icmp .eq 896, 3) := by decide +kernel
set_option maxRecDepth 100000 in
theorem d_law_368 : decode code 368 = .ok (.aload_n 1, 1) := by decide +kernel
set_option maxRecDepth 100000 in
theorem d_law_369 : decode code 369 = .ok (.aload_n 0, 1) := by decide +kernel
set_option maxRecDepth 100000 in
theorem d_law_370 : decode code 370 = .ok (.iload_n 3, 1) := by decide +kernel
set_option maxRecDepth 100000 in
theorem d_law_371 : decode code 371 = .ok (.iconst 1, 1) := by decide +kernel
set_option maxRecDepth 100000 in
theorem d_law_372 : decode code 372 = .ok (.iadd, 1) := by decide +kernel
set_option maxRecDepth 100000 in
theorem d_law_373 : decode code 373 = .ok (.iaload, 1) := by decide +kernel
set_option maxRecDepth 100000 in
theorem d_law_374 : decode code 374 = .ok (.invokevirtual 40, 3) := by decide +kernel
set_option maxRecDepth 100000 in
theorem d_law_377 : decode code 377 = .ok (.aload_n 2, 1) := by decide +kernel
set_option maxRecDepth 100000 in
theorem d_law_378 : decode code 378 = .ok (.aload_n 0, 1) := by decide +kernel
set_option maxRecDepth 100000 in
theorem d_law_379 : decode code 379 = .ok (.iload_n 3, 1) := by decide +kernel
set_option maxRecDepth 100000 in
theorem d_law_380 : decode code 380 = .ok (.iconst 1, 1) := by decide +kernel
set_option maxRecDepth 100000 in
theorem d_law_381 : decode code 381 = .ok (.iadd, 1) := by decide +kernel
set_option maxRecDepth 100000 in
theorem d_law_382 : decode code 382 = .ok (.iaload, 1) := by decide +kernel
set_option maxRecDepth 100000 in
theorem d_law_383 : decode code 383 = .ok (.invokevirtual 43, 3) := by decide +kernel
set_option maxRecDepth 100000 in
theorem d_law_386 : decode code 386 = .ok (.if_icmp .eq 873, 3) := by decide +kernel
set_option maxRecDepth 100000 in
theorem d_law_391 : decode code 391 = .ok (.aload_n 1, 1) := by decide +kernel
set_option maxRecDepth 100000 in
theorem d_law_392 : decode code 392 = .ok (.aload_n 0, 1) := by decide +kernel
set_option maxRecDepth 100000 in
theorem d_law_393 : decode code 393 = .ok (.iload_n 3, 1) := by decide +kernel
set_option maxRecDepth 100000 in
theorem d_law_394 : decode code 394 = .ok (.iconst 1, 1) := by decide +kernel
set_option maxRecDepth 100000 in
theorem d_law_395 : decode code 395 = .ok (.iadd, 1) := by decide +kernel
set_option maxRecDepth 100000 in
theorem d_law_396 : decode code 396 = .ok (.iaload, 1) := by decide +kernel
set_option maxRecDepth 100000 in
theorem d_law_397 : decode code 397 = .ok (.aload_n 0, 1) := by decide +kernel
set_option maxRecDepth 100000 in
theorem d_law_398 : decode code 398 = .ok (.iload_n 3, 1) := by decide +kernel
set_option maxRecDepth 100000 in
theorem d_law_399 : decode code 399 = .ok (.iconst 2, 1) := by decide +kernel
set_option maxRecDepth 100000 in
theorem d_law_400 : decode code 400 = .ok (.iadd, 1) := by decide +kernel
set_option maxRecDepth 100000 in
theorem d_law_401 : decode code 401 = .ok (.iaload, 1) := by decide +kernel
set_option maxRecDepth 100000 in
theorem d_law_402 : decode code 402 = .ok (.invokevirtual 44, 3) := by decide +kernel
set_option maxRecDepth 100000 in
theorem d_law_405 : decode code 405 = .ok (.aload_n 2, 1) := by decide +kernel
set_option maxRecDepth 100000 in
theorem d_law_406 : decode code 406 = .ok (.aload_n 0, 1) := by decide +kernel
set_option maxRecDepth 100000 in
theorem d_law_407 : decode code 407 = .ok (.iload_n 3, 1) := by decide +kernel
set_option maxRecDepth 100000 in
theorem d_law_408 : decode code 408 = .ok (.iconst 1, 1) := by decide +kernel
set_option maxRecDepth 100000 in
theorem d_law_409 : decode code 409 = .ok (.iadd, 1) := by decide +kernel
set_option maxRecDepth 100000 in
theorem d_law_410 : decode code 410 = .ok (.iaload, 1) := by decide +kernel
set_option maxRecDepth 100000 in
theorem d_law_411 : decode code 411 = .ok (.aload_n 0, 1) := by decide +kernel
set_option maxRecDepth 100000 in
theorem d_law_412 : decode code 412 = .ok (.iload_n 3, 1) := by decide +kernel
set_option maxRecDepth 100000 in
theorem d_law_413 : decode code 413 = .ok (.iconst 2, 1) := by decide +kernel
set_option maxRecDepth 100000 in
theorem d_law_414 : decode code 414 = .ok (.iadd, 1) := by decide +kernel
set_option maxRecDepth 100000 in
theorem d_law_415 : decode code 415 = .ok (.iaload, 1) := by decide +kernel
set_option maxRecDepth 100000 in
theorem d_law_416 : decode code 416 = .ok (.invokevirtual 47, 3) := by decide +kernel
set_option maxRecDepth 100000 in
theorem d_law_419 : decode code 419 = .ok (.if_icmp .eq 840, 3) := by decide +kernel
set_option maxRecDepth 100000 in
theorem d_law_424 : decode code 424 = .ok (.aload_n 1, 1) := by decide +kernel
set_option maxRecDepth 100000 in
theorem d_law_425 : decode code 425 = .ok (.aload_n 0, 1) := by decide +kernel
set_option maxRecDepth 100000 in
theorem d_law_426 : decode code 426 = .ok (.iload_n 3, 1) := by decide +kernel
set_option maxRecDepth 100000 in
theorem d_law_427 : decode code 427 = .ok (.iconst 1, 1) := by decide +kernel
set_option maxRecDepth 100000 in
theorem d_law_428 : decode code 428 = .ok (.iadd, 1) := by decide +kernel
set_option maxRecDepth 100000 in
theorem d_law_429 : decode code 429 = .ok (.iaload, 1) := by decide +kernel
set_option maxRecDepth 100000 in
theorem d_law_430 : decode code 430 = .ok (.aload_n 0, 1) := by decide +kernel
set_option maxRecDepth 100000 in
theorem d_law_431 : decode code 431 = .ok (.iload_n 3, 1) := by decide +kernel
set_option maxRecDepth 100000 in
theorem d_law_432 : decode code 432 = .ok (.iconst 2, 1) := by decide +kernel
set_option maxRecDepth 100000 in
theorem d_law_433 : decode code 433 = .ok (.iadd, 1) := by decide +kernel
set_option maxRecDepth 100000 in
theorem d_law_434 : decode code 434 = .ok (.iaload, 1) := by decide +kernel
set_option maxRecDepth 100000 in
theorem d_law_435 : decode code 435 = .ok (.aload_n 0, 1) := by decide +kernel
set_option maxRecDepth 100000 in
theorem d_law_436 : decode code 436 = .ok (.iload_n 3, 1) := by decide +kernel
set_option maxRecDepth 100000 in
theorem d_law_437 : decode code 437 = .ok (.iconst 3, 1) := by decide +kernel
set_option maxRecDepth 100000 in
theorem d_law_438 : decode code 438 = .ok (.iadd, 1) := by decide +kernel
set_option maxRecDepth 100000 in
theorem d_law_439 : decode code 439 = .ok (.iaload, 1) := by decide +kernel
set_option maxRecDepth 100000 in
theorem d_law_440 : decode code 440 = .ok (.invokevirtual 48, 3) := by decide +kernel
set_option maxRecDepth 100000 in
theorem d_law_443 : decode code 443 = .ok (.aload_n 2, 1) := by decide +kernel
set_option maxRecDepth 100000 in
theorem d_law_444 : decode code 444 = .ok (.aload_n 0, 1) := by decide +kernel
set_option maxRecDepth 100000 in
theorem d_law_445 : decode code 445 = .ok (.iload_n 3, 1) := by decide +kernel
set_option maxRecDepth 100000 in
theorem d_law_446 : decode code 446 = .ok (.iconst 1, 1) := by decide +kernel
set_option maxRecDepth 100000 in
theorem d_law_447 : decode code 447 = .ok (.iadd, 1) := by decide +kernel
set_option maxRecDepth 100000 in
theorem d_law_448 : decode code 448 = .ok (.iaload, 1) := by decide +kernel
set_option maxRecDepth 100000 in
theorem d_law_449 : decode code 449 = .ok (.aload_n 0, 1) := by decide +kernel
set_option maxRecDepth 100000 in
theorem d_law_450 : decode code 450 = .ok (.iload_n 3, 1) := by decide +kernel
set_option maxRecDepth 100000 in
theorem d_law_451 : decode code 451 = .ok (.iconst 2, 1) := by decide +kernel
set_option maxRecDepth 100000 in
theorem d_law_452 : decode code 452 = .ok (.iadd, 1) := by decide +kernel
set_option maxRecDepth 100000 in
theorem d_law_453 : decode code 453 = .ok (.iaload, 1) := by decide +kernel
set_option maxRecDepth 100000 in
theorem d_law_454 : decode code 454 = .ok (.aload_n 0, 1) := by decide +kernel
set_option maxRecDepth 100000 in
theorem d_law_455 : decode code 455 = .ok (.iload_n 3, 1) := by decide +kernel
set_option maxRecDepth 100000 in
theorem d_law_456 : decode code 456 = .ok (.iconst 3, 1) := by decide +kernel
set_option maxRecDepth 100000 in
theorem d_law_457 : decode code 457 = .ok (.iadd, 1) := by decide +kernel
set_option maxRecDepth 100000 in
theorem d_law_458 : decode code 458 = .ok (.iaload, 1) := by decide +kernel
set_option maxRecDepth 100000 in
theorem d_law_459 : decode code 459 = .ok (.invokevirtual 51, 3) := by decide +kernel
set_option maxRecDepth 100000 in
theorem d_law_462 : decode code 462 = .ok (.if_icmp .eq 797, 3) := by decide +kernel
set_option maxRecDepth 100000 in
theorem d_law_467 : decode code 467 = .ok (.aload_n 1, 1) := by decide +kernel
set_option maxRecDepth 100000 in
theorem d_law_468 : decode code 468 = .ok (.aload_n 0, 1) := by decide +kernel
set_option maxRecDepth 100000 in
theorem d_law_469 : decode code 469 = .ok (.iload_n 3, 1) := by decide +kernel
set_option maxRecDepth 100000 in
theorem d_law_470 : decode code 470 = .ok (.iconst 1, 1) := by decide +kernel
set_option maxRecDepth 100000 in
theorem d_law_471 : decode code 471 = .ok (.iadd, 1) := by decide +kernel
set_option maxRecDepth 100000 in
theorem d_law_472 : decode code 472 = .ok (.iaload, 1) := by decide +kernel
set_option maxRecDepth 100000 in
theorem d_law_473 : decode code 473 = .ok (.invokevirtual 52, 3) := by decide +kernel
set_option maxRecDepth 100000 in
theorem d_law_476 : decode code 476 = .ok (.aload_n 2, 1) := by decide +kernel
set_option maxRecDepth 100000 in
theorem d_law_477 : decode code 477 = .ok (.aload_n 0, 1) := by decide +kernel
set_option maxRecDepth 100000 in
theorem d_law_478 : decode code 478 = .ok (.iload_n 3, 1) := by decide +kernel
set_option maxRecDepth 100000 in
theorem d_law_479 : decode code 479 = .ok (.iconst 1, 1) := by decide +kernel
set_option maxRecDepth 100000 in
theorem d_law_480 : decode code 480 = .ok (.iadd, 1) := by decide +kernel
set_option maxRecDepth 100000 in
theorem d_law_481 : decode code 481 = .ok (.iaload, 1) := by decide +kernel
set_option maxRecDepth 100000 in
theorem d_law_482 : decode code 482 = .ok (.invokevirtual 55, 3) := by decide +kernel
set_option maxRecDepth 100000 in
theorem d_law_485 : decode code 485 = .ok (.if_icmp .eq 774, 3) := by decide +kernel
set_option maxRecDepth 100000 in
theorem d_law_490 : decode code 490 = .ok (.aload_n 1, 1) := by decide +kernel
set_option maxRecDepth 100000 in
theorem d_law_491 : decode code 491 = .ok (.aload_n 0, 1) := by decide +kernel
set_option maxRecDepth 100000 in
theorem d_law_492 : decode code 492 = .ok (.iload_n 3, 1) := by decide +kernel
set_option maxRecDepth 100000 in
theorem d_law_493 : decode code 493 = .ok (.iconst 1, 1) := by decide +kernel
set_option maxRecDepth 100000 in
theorem d_law_494 : decode code 494 = .ok (.iadd, 1) := by decide +kernel
set_option maxRecDepth 100000 in
theorem d_law_495 : decode code 495 = .ok (.iaload, 1) := by decide +kernel
set_option maxRecDepth 100000 in
theorem d_law_496 : decode code 496 = .ok (.invokevirtual 56, 3) := by decide +kernel
set_option maxRecDepth 100000 in
theorem d_law_499 : decode code 499 = .ok (.aload_n 2, 1) := by decide +kernel
set_option maxRecDepth 100000 in
theorem d_law_500 : decode code 500 = .ok (.aload_n 0, 1) := by decide +kernel
set_option maxRecDepth 100000 in
theorem d_law_501 : decode code 501 = .ok (.iload_n 3, 1) := by decide +kernel
set_option maxRecDepth 100000 in
theorem d_law_502 : decode code 502 = .ok (.iconst 1, 1) := by decide +kernel
set_option maxRecDepth 100000 in
theorem d_law_503 : decode code 503 = .ok (.iadd, 1) := by decide +kernel
set_option maxRecDepth 100000 in
theorem d_law_504 : decode code 504 = .ok (.iaload, 1) := by decide +kernel
set_option maxRecDepth 100000 in
theorem d_law_505 : decode code 505 = .ok (.invokevirtual 59, 3) := by decide +kernel
set_option maxRecDepth 100000 in
theorem d_law_508 : decode code 508 = .ok (.if_icmp .eq 751, 3) := by decide +kernel
set_option maxRecDepth 100000 in
theorem d_law_513 : decode code 513 = .ok (.aload_n 1, 1) := by decide +kernel
set_option maxRecDepth 100000 in
theorem d_law_514 : decode code 514 = .ok (.aload_n 0, 1) := by decide +kernel
set_option maxRecDepth 100000 in
theorem d_law_515 : decode code 515 = .ok (.iload_n 3, 1) := by decide +kernel
set_option maxRecDepth 100000 in
theorem d_law_516 : decode code 516 = .ok (.iconst 1, 1) := by decide +kernel
set_option maxRecDepth 100000 in
theorem d_law_517 : decode code 517 = .ok (.iadd, 1) := by decide +kernel
set_option maxRecDepth 100000 in
theorem d_law_518 : decode code 518 = .ok (.iaload, 1) := by decide +kernel
set_option maxRecDepth 100000 in
theorem d_law_519 : decode code 519 = .ok (.aload_n 0, 1) := by decide +kernel
set_option maxRecDepth 100000 in
theorem d_law_520 : decode code 520 = .ok (.iload_n 3, 1) := by decide +kernel
set_option maxRecDepth 100000 in
theorem d_law_521 : decode code 521 = .ok (.iconst 2, 1) := by decide +kernel
set_option maxRecDepth 100000 in
theorem d_law_522 : decode code 522 = .ok (.iadd, 1) := by decide +kernel
set_option maxRecDepth 100000 in
theorem d_law_523 : decode code 523 = .ok (.iaload, 1) := by decide +kernel
set_option maxRecDepth 100000 in
theorem d_law_524 : decode code 524 = .ok (.invokevirtual 60, 3) := by decide +kernel
set_option maxRecDepth 100000 in
theorem d_law_527 : decode code 527 = .ok (.aload_n 2, 1) := by decide +kernel
set_option maxRecDepth 100000 in
theorem d_law_528 : decode code 528 = .ok (.aload_n 0, 1) := by decide +kernel
set_option maxRecDepth 100000 in
theorem d_law_529 : decode code 529 = .ok (.iload_n 3, 1) := by decide +kernel
set_option maxRecDepth 100000 in
theorem d_law_530 : decode code 530 = .ok (.iconst 1, 1) := by decide +kernel
set_option maxRecDepth 100000 in
theorem d_law_531 : decode code 531 = .ok (.iadd, 1) := by decide +kernel
set_option maxRecDepth 100000 in
theorem d_law_532 : decode code 532 = .ok (.iaload, 1) := by decide +kernel
set_option maxRecDepth 100000 in
theorem d_law_533 : decode code 533 = .ok (.aload_n 0, 1) := by decide +kernel
set_option maxRecDepth 100000 in
theorem d_law_534 : decode code 534 = .ok (.iload_n 3, 1) := by decide +kernel
set_option maxRecDepth 100000 in
theorem d_law_535 : decode code 535 = .ok (.iconst 2, 1) := by decide +kernel
set_option maxRecDepth 100000 in
theorem d_law_536 : decode code 536 = .ok (.iadd, 1) := by decide +kernel
set_option maxRecDepth 100000 in
theorem d_law_537 : decode code 537 = .ok (.iaload, 1) := by decide +kernel
set_option maxRecDepth 100000 in
theorem d_law_538 : decode code 538 = .ok (.invokevirtual 63, 3) := by decide +kernel
set_option maxRecDepth 100000 in
theorem d_law_541 : decode code 541 = .ok (.if_icmp .eq 718, 3) := by decide +kernel
set_option maxRecDepth 100000 in
theorem d_law_546 : decode code 546 = .ok (.aload_n 1, 1) := by decide +kernel
set_option maxRecDepth 100000 in
theorem d_law_547 : decode code 547 = .ok (.aload_n 0, 1) := by decide +kernel
set_option maxRecDepth 100000 in
theorem d_law_548 : decode code 548 = .ok (.iload_n 3, 1) := by decide +kernel
set_option maxRecDepth 100000 in
theorem d_law_549 : decode code 549 = .ok (.iconst 1, 1) := by decide +kernel
set_option maxRecDepth 100000 in
theorem d_law_550 : decode code 550 = .ok (.iadd, 1) := by decide +kernel
set_option maxRecDepth 100000 in
theorem d_law_551 : decode code 551 = .ok (.iaload, 1) := by decide +kernel
set_option maxRecDepth 100000 in
theorem d_law_552 : decode code 552 = .ok (.aload_n 0, 1) := by decide +kernel
set_option maxRecDepth 100000 in
theorem d_law_553 : decode code 553 = .ok (.iload_n 3, 1) := by decide +kernel
set_option maxRecDepth 100000 in
theorem d_law_554 : decode code 554 = .ok (.iconst 2, 1) := by decide +kernel
set_option maxRecDepth 100000 in
theorem d_law_555 : decode code 555 = .ok (.iadd, 1) := by decide +kernel
set_option maxRecDepth 100000 in
theorem d_law_556 : decode code 556 = .ok (.iaload, 1) := by decide +kernel
set_option maxRecDepth 100000 in
theorem d_law_557 : decode code 557 = .ok (.invokevirtual 64, 3) := by decide +kernel
set_option maxRecDepth 100000 in
theorem d_law_560 : decode code 560 = .ok (.aload_n 2, 1) := by decide +kernel
set_option maxRecDepth 100000 in
theorem d_law_561 : decode code 561 = .ok (.aload_n 0, 1) := by decide +kernel
set_option maxRecDepth 100000 in
theorem d_law_562 : decode code 562 = .ok (.iload_n 3, 1) := by decide +kernel
set_option maxRecDepth 100000 in
theorem d_law_563 : decode code 563 = .ok (.iconst 1, 1) := by decide +kernel
set_option maxRecDepth 100000 in
theorem d_law_564 : decode code 564 = .ok (.iadd, 1) := by decide +kernel
set_option maxRecDepth 100000 in
theorem d_law_565 : decode code 565 = .ok (.iaload, 1) := by decide +kernel
set_option maxRecDepth 100000 in
theorem d_law_566 : decode code 566 = .ok (.aload_n 0, 1) := by decide +kernel
set_option maxRecDepth 100000 in
theorem d_law_567 : decode code 567 = .ok (.iload_n 3, 1) := by decide +kernel
set_option maxRecDepth 100000 in
theorem d_law_568 : decode code 568 = .ok (.iconst 2, 1) := by decide +kernel
set_option maxRecDepth 100000 in
theorem d_law_569 : decode code 569 = .ok (.iadd, 1) := by decide +kernel
set_option maxRecDepth 100000 in
theorem d_law_570 : decode code 570 = .ok (.iaload, 1) := by decide +kernel
set_option maxRecDepth 100000 in
theorem d_law_571 : decode code 571 = .ok (.invokevirtual 67, 3) := by decide +kernel
set_option maxRecDepth 100000 in
theorem d_law_574 : decode code 574 = .ok (.if_icmp .eq 685, 3) := by decide +kernel
set_option maxRecDepth 100000 in
theorem d_law_579 : decode code 579 = .ok (.aload_n 1, 1) := by decide +kernel
set_option maxRecDepth 100000 in
theorem d_law_580 : decode code 580 = .ok (.aload_n 0, 1) := by decide +kernel
set_option maxRecDepth 100000 in
theorem d_law_581 : decode code 581 = .ok (.iload_n 3, 1) := by decide +kernel
set_option maxRecDepth 100000 in
theorem d_law_582 : decode code 582 = .ok (.iconst 1, 1) := by decide +kernel
set_option maxRecDepth 100000 in
theorem d_law_583 : decode code 583 = .ok (.iadd, 1) := by decide +kernel
set_option maxRecDepth 100000 in
theorem d_law_584 : decode code 584 = .ok (.iaload, 1) := by decide +kernel
set_option maxRecDepth 100000 in
theorem d_law_585 : decode code 585 = .ok (.aload_n 0, 1) := by decide +kernel
set_option maxRecDepth 100000 in
theorem d_law_586 : decode code 586 = .ok (.iload_n 3, 1) := by decide +kernel
set_option maxRecDepth 100000 in
theorem d_law_587 : decode code 587 = .ok (.iconst 2, 1) := by decide +kernel
set_option maxRecDepth 100000 in
theorem d_law_588 : decode code 588 = .ok (.iadd, 1) := by decide +kernel
set_option maxRecDepth 100000 in
theorem d_law_589 : decode code 589 = .ok (.iaload, 1) := by decide +kernel
set_option maxRecDepth 100000 in
theorem d_law_590 : decode code 590 = .ok (.invokevirtual 68, 3) := by decide +kernel
set_option maxRecDepth 100000 in
theorem d_law_593 : decode code 593 = .ok (.aload_n 2, 1) := by decide +kernel
set_option maxRecDepth 100000 in
theorem d_law_594 : decode code 594 = .ok (.aload_n 0, 1) := by decide +kernel
set_option maxRecDepth 100000 in
theorem d_law_595 : decode code 595 = .ok (.iload_n 3, 1) := by decide +kernel
set_option maxRecDepth 100000 in
theorem d_law_596 : decode code 596 = .ok (.iconst 1, 1) := by decide +kernel
set_option maxRecDepth 100000 in
theorem d_law_597 : decode code 597 = .ok (.iadd, 1) := by decide +kernel
set_option maxRecDepth 100000 in
theorem d_law_598 : decode code 598 = .ok (.iaload, 1) := by decide +kernel
set_option maxRecDepth 100000 in
theorem d_law_599 : decode code 599 = .ok (.aload_n 0, 1) := by decide +kernel
set_option maxRecDepth 100000 in
theorem d_law_600 : decode code 600 = .ok (.iload_n 3, 1) := by decide +kernel
set_option maxRecDepth 100000 in
theorem d_law_601 : decode code 601 = .ok (.iconst 2, 1) := by decide +kernel
set_option maxRecDepth 100000 in
theorem d_law_602 : decode code 602 = .ok (.iadd, 1) := by decide +kernel
set_option maxRecDepth 100000 in
theorem d_law_603 : decode code 603 = .ok (.iaload, 1) := by decide +kernel
set_option maxRecDepth 100000 in
theorem d_law_604 : decode code 604 = .ok (.invokevirtual 71, 3) := by decide +kernel
set_option maxRecDepth 100000 in
theorem d_law_607 : decode code 607 = .ok (.if_icmp .eq 652, 3) := by decide +kernel
set_option maxRecDepth 100000 in
theorem d_law_612 : decode code 612 = .ok (.aload_n 1, 1) := by decide +kernel
set_option maxRecDepth 100000 in
theorem d_law_613 : decode code 613 = .ok (.aload_n 0, 1) := by decide +kernel
set_option maxRecDepth 100000 in
theorem d_law_614 : decode code 614 = .ok (.iload_n 3, 1) := by decide +kernel
set_option maxRecDepth 100000 in
theorem d_law_615 : decode code 615 = .ok (.iconst 1, 1) := by decide +kernel
set_option maxRecDepth 100000 in
theorem d_law_616 : decode code 616 = .ok (.iadd, 1) := by decide +kernel
set_option maxRecDepth 100000 in
theorem d_law_617 : decode code 617 = .ok (.iaload, 1) := by decide +kernel
set_option maxRecDepth 100000 in
theorem d_law_618 : decode code 618 = .ok (.aload_n 0, 1) := by decide +kernel
set_option maxRecDepth 100000 in
theorem d_law_619 : decode code 619 = .ok (.iload_n 3, 1) := by decide +kernel
set_option maxRecDepth 100000 in
theorem d_law_620 : decode code 620 = .ok (.iconst 2, 1) := by decide +kernel
set_option maxRecDepth 100000 in
theorem d_law_621 : decode code 621 = .ok (.iadd, 1) := by decide +kernel
set_option maxRecDepth 100000 in
theorem d_law_622 : decode code 622 = .ok (.iaload, 1) := by decide +kernel
set_option maxRecDepth 100000 in
theorem d_law_623 : decode code 623 = .ok (.invokevirtual 72, 3) := by decide +kernel
set_option maxRecDepth 100000 in
theorem d_law_626 : decode code 626 = .ok (.aload_n 2, 1) := by decide +kernel
set_option maxRecDepth 100000 in
theorem d_law_627 : decode code 627 = .ok (.aload_n 0, 1) := by decide +kernel
set_option maxRecDepth 100000 in
theorem d_law_628 : decode code 628 = .ok (.iload_n 3, 1) := by decide +kernel
set_option maxRecDepth 100000 in
theorem d_law_629 : decode code 629 = .ok (.iconst 1, 1) := by decide +kernel
set_option maxRecDepth 100000 in
theorem d_law_630 : decode code 630 = .ok (.iadd, 1) := by decide +kernel
set_option maxRecDepth 100000 in
theorem d_law_631 : decode code 631 = .ok (.iaload, 1) := by decide +kernel
set_option maxRecDepth 100000 in
theorem d_law_632 : decode code 632 = .ok (.aload_n 0, 1) := by decide +kernel
set_option maxRecDepth 100000 in
theorem d_law_633 : decode code 633 = .ok (.iload_n 3, 1) := by decide +kernel
set_option maxRecDepth 100000 in
theorem d_law_634 : decode code 634 = .ok (.iconst 2, 1) := by decide +kernel
set_option maxRecDepth 100000 in
theorem d_law_635 : decode code 635 = .ok (.iadd, 1) := by decide +kernel
set_option maxRecDepth 100000 in
theorem d_law_636 : decode code 636 = .ok (.iaload, 1) := by decide +kernel
set_option maxRecDepth 100000 in
theorem d_law_637 : decode code 637 = .ok (.invokevirtual 75, 3) := by decide +kernel
set_option maxRecDepth 100000 in
theorem d_law_640 : decode code 640 = .ok (.if_icmp .eq 619, 3) := by decide +kernel
set_option maxRecDepth 100000 in
theorem d_law_645 : decode code 645 = .ok (.aload_n 1, 1) := by decide +kernel
set_option maxRecDepth 100000 in
theorem d_law_646 : decode code 646 = .ok (.aload_n 0, 1) := by decide +kernel
set_option maxRecDepth 100000 in
theorem d_law_647 : decode code 647 = .ok (.iload_n 3, 1) := by decide +kernel
set_option maxRecDepth 100000 in
theorem d_law_648 : decode code 648 = .ok (.iconst 1, 1) := by decide +kernel
set_option maxRecDepth 100000 in
theorem d_law_649 : decode code 649 = .ok (.iadd, 1) := by decide +kernel
set_option maxRecDepth 100000 in
theorem d_law_650 : decode code 650 = .ok (.iaload, 1) := by decide +kernel
set_option maxRecDepth 100000 in
theorem d_law_651 : decode code 651 = .ok (.invokevirtual 76, 3) := by decide +kernel
set_option maxRecDepth 100000 in
theorem d_law_654 : decode code 654 = .ok (.aload_n 2, 1) := by decide +kernel
set_option maxRecDepth 100000 in
theorem d_law_655 : decode code 655 = .ok (.aload_n 0, 1) := by decide +kernel
set_option maxRecDepth 100000 in
theorem d_law_656 : decode code 656 = .ok (.iload_n 3, 1) := by decide +kernel
set_option maxRecDepth 100000 in
theorem d_law_657 : decode code 657 = .ok (.iconst 1, 1) := by decide +kernel
set_option maxRecDepth 100000 in
theorem d_law_658 : decode code 658 = .ok (.iadd, 1) := by decide +kernel
set_option maxRecDepth 100000 in
theorem d_law_659 : decode code 659 = .ok (.iaload, 1) := by decide +kernel
set_option maxRecDepth 100000 in
theorem d_law_660 : decode code 660 = .ok (.invokevirtual 79, 3) := by decide +kernel
set_option maxRecDepth 100000 in
theorem d_law_663 : decode code 663 = .ok (.if_icmp .eq 596, 3) := by decide +kernel
set_option maxRecDepth 100000 in
theorem d_law_668 : decode code 668 = .ok (.aload_n 1, 1) := by decide +kernel
set_option maxRecDepth 100000 in
theorem d_law_669 : decode code 669 = .ok (.aload_n 0, 1) := by decide +kernel
set_option maxRecDepth 100000 in
theorem d_law_670 : decode code 670 = .ok (.iload_n 3, 1) := by decide +kernel
set_option maxRecDepth 100000 in
theorem d_law_671 : decode code 671 = .ok (.iconst 1, 1) := by decide +kernel
set_option maxRecDepth 100000 in
theorem d_law_672 : decode code 672 = .ok (.iadd, 1) := by decide +kernel
set_option maxRecDepth 100000 in
theorem d_law_673 : decode code 673 = .ok (.iaload, 1) := by decide +kernel
set_option maxRecDepth 100000 in
theorem d_law_674 : decode code 674 = .ok (.aload_n 0, 1) := by decide +kernel
set_option maxRecDepth 100000 in
theorem d_law_675 : decode code 675 = .ok (.iload_n 3, 1) := by decide +kernel
set_option maxRecDepth 100000 in
theorem d_law_676 : decode code 676 = .ok (.iconst 2, 1) := by decide +kernel
set_option maxRecDepth 100000 in
theorem d_law_677 : decode code 677 = .ok (.iadd, 1) := by decide +kernel
set_option maxRecDepth 100000 in
theorem d_law_678 : decode code 678 = .ok (.iaload, 1) := by decide +kernel
set_option maxRecDepth 100000 in
theorem d_law_679 : decode code 679 = .ok (.aload_n 0, 1) := by decide +kernel
set_option maxRecDepth 100000 in
theorem d_law_680 : decode code 680 = .ok (.iload_n 3, 1) := by decide +kernel
set_option maxRecDepth 100000 in
theorem d_law_681 : decode code 681 = .ok (.iconst 3, 1) := by decide +kernel
set_option maxRecDepth 100000 in
theorem d_law_682 : decode code 682 = .ok (.iadd, 1) := by decide +kernel
set_option maxRecDepth 100000 in
theorem d_law_683 : decode code 683 = .ok (.iaload, 1) := by decide +kernel
set_option maxRecDepth 100000 in
theorem d_law_684 : decode code 684 = .ok (.aload_n 0, 1) := by decide +kernel
set_option maxRecDepth 100000 in
theorem d_law_685 : decode code 685 = .ok (.iload_n 3, 1) := by decide +kernel
set_option maxRecDepth 100000 in
theorem d_law_686 : decode code 686 = .ok (.iconst 4, 1) := by decide +kernel
set_option maxRecDepth 100000 in
theorem d_law_687 : decode code 687 = .ok (.iadd, 1) := by decide +kernel
set_option maxRecDepth 100000 in
theorem d_law_688 : decode code 688 = .ok (.iaload, 1) := by decide +kernel
set_option maxRecDepth 100000 in
theorem d_law_689 : decode code 689 = .ok (.aload_n 0, 1) := by decide +kernel
set_option maxRecDepth 100000 in
theorem d_law_690 : decode code 690 = .ok (.iload_n 3, 1) := by decide +kernel
set_option maxRecDepth 100000 in
theorem d_law_691 : decode code 691 = .ok (.iconst 5, 1) := by decide +kernel
set_option maxRecDepth 100000 in
theorem d_law_692 : decode code 692 = .ok (.iadd, 1) := by decide +kernel
set_option maxRecDepth 100000 in
theorem d_law_693 : decode code 693 = .ok (.iaload, 1) := by decide +kernel
set_option maxRecDepth 100000 in
theorem d_law_694 : decode code 694 = .ok (.invokevirtual 80, 3) := by decide +kernel
set_option maxRecDepth 100000 in
theorem d_law_697 : decode code 697 = .ok (.aload_n 2, 1) := by decide +kernel
set_option maxRecDepth 100000 in
theorem d_law_698 : decode code 698 = .ok (.aload_n 0, 1) := by decide +kernel
set_option maxRecDepth 100000 in
theorem d_law_699 : decode code 699 = .ok (.iload_n 3, 1) := by decide +kernel
set_option maxRecDepth 100000 in
theorem d_law_700 : decode code 700 = .ok (.iconst 1, 1) := by decide +kernel
set_option maxRecDepth 100000 in
theorem d_law_701 : decode code 701 = .ok (.iadd, 1) := by decide +kernel
set_option maxRecDepth 100000 in
theorem d_law_702 : decode code 702 = .ok (.iaload, 1) := by decide +kernel
set_option maxRecDepth 100000 in
theorem d_law_703 : decode code 703 = .ok (.aload_n 0, 1) := by decide +kernel
set_option maxRecDepth 100000 in
theorem d_law_704 : decode code 704 = .ok (.iload_n 3, 1) := by decide +kernel
set_option maxRecDepth 100000 in
theorem d_law_705 : decode code 705 = .ok (.iconst 2, 1) := by decide +kernel
set_option maxRecDepth 100000 in
theorem d_law_706 : decode code 706 = .ok (.iadd, 1) := by decide +kernel
set_option maxRecDepth 100000 in
theorem d_law_707 : decode code 707 = .ok (.iaload, 1) := by decide +kernel
set_option maxRecDepth 100000 in
theorem d_law_708 : decode code 708 = .ok (.aload_n 0, 1) := by decide +kernel
set_option maxRecDepth 100000 in
theorem d_law_709 : decode code 709 = .ok (.iload_n 3, 1) := by decide +kernel
set_option maxRecDepth 100000 in
theorem d_law_710 : decode code 710 = .ok (.iconst 3, 1) := by decide +kernel
set_option maxRecDepth 100000 in
theorem d_law_711 : decode code 711 = .ok (.iadd, 1) := by decide +kernel
set_option maxRecDepth 100000 in
theorem d_law_712 : decode code 712 = .ok (.iaload, 1) := by decide +kernel
set_option maxRecDepth 100000 in
theorem d_law_713 : decode code 713 = .ok (.aload_n 0, 1) := by decide +kernel
set_option maxRecDepth 100000 in
theorem d_law_714 : decode code 714 = .ok (.iload_n 3, 1) := by decide +kernel
set_option maxRecDepth 100000 in
theorem d_law_715 : decode code 715 = .ok (.iconst 4, 1) := by decide +kernel
set_option maxRecDepth 100000 in
theorem d_law_716 : decode code 716 = .ok (.iadd, 1) := by decide +kernel
set_option maxRecDepth 100000 in
theorem d_law_717 : decode code 717 = .ok (.iaload, 1) := by decide +kernel
set_option maxRecDepth 100000 in
theorem d_law_718 : decode code 718 = .ok (.aload_n 0, 1) := by decide +kernel
set_option maxRecDepth 100000 in
theorem d_law_719 : decode code 719 = .ok (.iload_n 3, 1) := by decide +kernel
set_option maxRecDepth 100000 in
theorem d_law_720 : decode code 720 = .ok (.iconst 5, 1) := by decide +kernel
set_option maxRecDepth 100000 in
theorem d_law_721 : decode code 721 = .ok (.iadd, 1) := by decide +kernel
set_option maxRecDepth 100000 in
theorem d_law_722 : decode code 722 = .ok (.iaload, 1) := by decide +kernel
set_option maxRecDepth 100000 in
theorem d_law_723 : decode code 723 = .ok (.invokevirtual 84, 3) := by decide +kernel
set_option maxRecDepth 100000 in
theorem d_law_726 : decode code 726 = .ok (.if_icmp .eq 533, 3) := by decide +kernel
set_option maxRecDepth 100000 in
theorem d_law_731 : decode code 731 = .ok (.aload_n 1, 1) := by decide +kernel
set_option maxRecDepth 100000 in
theorem d_law_732 : decode code 732 = .ok (.aload_n 0, 1) := by decide +kernel
set_option maxRecDepth 100000 in
theorem d_law_733 : decode code 733 = .ok (.iload_n 3, 1) := by decide +kernel
set_option maxRecDepth 100000 in
theorem d_law_734 : decode code 734 = .ok (.iconst 1, 1) := by decide +kernel
set_option maxRecDepth 100000 in
theorem d_law_735 : decode code 735 = .ok (.iadd, 1) := by decide +kernel
set_option maxRecDepth 100000 in
theorem d_law_736 : decode code 736 = .ok (.iaload, 1) := by decide +kernel
set_option maxRecDepth 100000 in
theorem d_law_737 : decode code 737 = .ok (.invokevirtual 85, 3) := by decide +kernel
set_option maxRecDepth 100000 in
theorem d_law_740 : decode code 740 = .ok (.aload_n 2, 1) := by decide +kernel
set_option maxRecDepth 100000 in
theorem d_law_741 : decode code 741 = .ok (.aload_n 0, 1) := by decide +kernel
set_option maxRecDepth 100000 in
theorem d_law_742 : decode code 742 = .ok (.iload_n 3, 1) := by decide +kernel
set_option maxRecDepth 100000 in
theorem d_law_743 : decode code 743 = .ok (.iconst 1, 1) := by decide +kernel
set_option maxRecDepth 100000 in
theorem d_law_744 : decode code 744 = .ok (.iadd, 1) := by decide +kernel
set_option maxRecDepth 100000 in
theorem d_law_745 : decode code 745 = .ok (.iaload, 1) := by decide +kernel
set_option maxRecDepth 100000 in
theorem d_law_746 : decode code 746 = .ok (.invokevirtual 88, 3) := by decide +kernel
set_option maxRecDepth 100000 in
theorem d_law_749 : decode code 749 = .ok (.if_icmp .eq 510, 3) := by decide +kernel
set_option maxRecDepth 100000 in
theorem d_law_754 : decode code 754 = .ok (.aload_n 1, 1) := by decide +kernel
set_option maxRecDepth 100000 in
theorem d_law_755 : decode code 755 = .ok (.aload_n 0, 1) := by decide +kernel
set_option maxRecDepth 100000 in
theorem d_law_756 : decode code 756 = .ok (.iload_n 3, 1) := by decide +kernel
set_option maxRecDepth 100000 in
theorem d_law_757 : decode code 757 = .ok (.iconst 1, 1) := by decide +kernel
set_option maxRecDepth 100000 in
theorem d_law_758 : decode code 758 = .ok (.iadd, 1) := by decide +kernel
set_option maxRecDepth 100000 in
theorem d_law_759 : decode code 759 = .ok (.iaload, 1) := by decide +kernel
set_option maxRecDepth 100000 in
theorem d_law_760 : decode code 760 = .ok (.invokevirtual 89, 3) := by decide +kernel
set_option maxRecDepth 100000 in
theorem d_law_763 : decode code 763 = .ok (.aload_n 2, 1) := by decide +kernel
set_option maxRecDepth 100000 in
theorem d_law_764 : decode code 764 = .ok (.aload_n 0, 1) := by decide +kernel
set_option maxRecDepth 100000 in
theorem d_law_765 : decode code 765 = .ok (.iload_n 3, 1) := by decide +kernel
set_option maxRecDepth 100000 in
theorem d_law_766 : decode code 766 = .ok (.iconst 1, 1) := by decide +kernel
set_option maxRecDepth 100000 in
theorem d_law_767 : decode code 767 = .ok (.iadd, 1) := by decide +kernel
set_option maxRecDepth 100000 in
theorem d_law_768 : decode code 768 = .ok (.iaload, 1) := by decide +kernel
set_option maxRecDepth 100000 in
theorem d_law_769 : decode code 769 = .ok (.invokevirtual 92, 3) := by decide +kernel
set_option maxRecDepth 100000 in
theorem d_law_772 : decode code 772 = .ok (.if_icmp .eq 487, 3) := by decide +kernel
set_option maxRecDepth 100000 in
theorem d_law_777 : decode code 777 = .ok (.aload_n 1, 1) := by decide +kernel
set_option maxRecDepth 100000 in
theorem d_law_778 : decode code 778 = .ok (.aload_n 0, 1) := by decide +kernel
set_option maxRecDepth 100000 in
theorem d_law_779 : decode code 779 = .ok (.iload_n 3, 1) := by decide +kernel
set_option maxRecDepth 100000 in
theorem d_law_780 : decode code 780 = .ok (.iconst 1, 1) := by decide +kernel
set_option maxRecDepth 100000 in
theorem d_law_781 : decode code 781 = .ok (.iadd, 1) := by decide +kernel
set_option maxRecDepth 100000 in
theorem d_law_782 : decode code 782 = .ok (.iaload, 1) := by decide +kernel
set_option maxRecDepth 100000 in
theorem d_law_783 : decode code 783 = .ok (.aload_n 0, 1) := by decide +kernel
set_option maxRecDepth 100000 in
theorem d_law_784 : decode code 784 = .ok (.iload_n 3, 1) := by decide +kernel
set_option maxRecDepth 100000 in
theorem d_law_785 : decode code 785 = .ok (.iconst 2, 1) := by decide +kernel
set_option maxRecDepth 100000 in
theorem d_law_786 : decode code 786 = .ok (.iadd, 1) := by decide +kernel
set_option maxRecDepth 100000 in
theorem d_law_787 : decode code 787 = .ok (.iaload, 1) := by decide +kernel
set_option maxRecDepth 100000 in
theorem d_law_788 : decode code 788 = .ok (.invokevirtual 93, 3) := by decide +kernel
set_option maxRecDepth 100000 in
theorem d_law_791 : decode code 791 = .ok (.aload_n 2, 1) := by decide +kernel
set_option maxRecDepth 100000 in
theorem d_law_792 : decode code 792 = .ok (.aload_n 0, 1) := by decide +kernel
set_option maxRecDepth 100000 in
theorem d_law_793 : decode code 793 = .ok (.iload_n 3, 1) := by decide +kernel
set_option maxRecDepth 100000 in
theorem d_law_794 : decode code 794 = .ok (.iconst 1, 1) := by decide +kernel
set_option maxRecDepth 100000 in
theorem d_law_795 : decode code 795 = .ok (.iadd, 1) := by decide +kernel
set_option maxRecDepth 100000 in
theorem d_law_796 : decode code 796 = .ok (.iaload, 1) := by decide +kernel
set_option maxRecDepth 100000 in
theorem d_law_797 : decode code 797 = .ok (.aload_n 0, 1) := by decide +kernel
set_option maxRecDepth 100000 in
theorem d_law_798 : decode code 798 = .ok (.iload_n 3, 1) := by decide +kernel
set_option maxRecDepth 100000 in
theorem d_law_799 : decode code 799 = .ok (.iconst 2, 1) := by decide +kernel
set_option maxRecDepth 100000 in
theorem d_law_800 : decode code 800 = .ok (.iadd, 1) := by decide +kernel
set_option maxRecDepth 100000 in
theorem d_law_801 : decode code 801 = .ok (.iaload, 1) := by decide +kernel
set_option maxRecDepth 100000 in
theorem d_law_802 : decode code 802 = .ok (.invokevirtual 96, 3) := by decide +kernel
set_option maxRecDepth 100000 in
theorem d_law_805 : decode code 805 = .ok (.if_icmp .eq 454, 3) := by decide +kernel
set_option maxRecDepth 100000 in
theorem d_law_810 : decode code 810 = .ok (.aload_n 1, 1) := by decide +kernel
set_option maxRecDepth 100000 in
theorem d_law_811 : decode code 811 = .ok (.aload_n 0, 1) := by decide +kernel
set_option maxRecDepth 100000 in
theorem d_law_812 : decode code 812 = .ok (.iload_n 3, 1) := by decide +kernel
set_option maxRecDepth 100000 in
theorem d_law_813 : decode code 813 = .ok (.iconst 1, 1) := by decide +kernel
set_option maxRecDepth 100000 in
theorem d_law_814 : decode code 814 = .ok (.iadd, 1) := by decide +kernel
set_option maxRecDepth 100000 in
theorem d_law_815 : decode code 815 = .ok (.iaload, 1) := by decide +kernel
set_option maxRecDepth 100000 in
theorem d_law_816 : decode code 816 = .ok (.aload_n 0, 1) := by decide +kernel
set_option maxRecDepth 100000 in
theorem d_law_817 : decode code 817 = .ok (.iload_n 3, 1) := by decide +kernel
set_option maxRecDepth 100000 in
theorem d_law_818 : decode code 818 = .ok (.iconst 2, 1) := by decide +kernel
set_option maxRecDepth 100000 in
theorem d_law_819 : decode code 819 = .ok (.iadd, 1) := by decide +kernel
set_option maxRecDepth 100000 in
theorem d_law_820 : decode code 820 = .ok (.iaload, 1) := by decide +kernel
set_option maxRecDepth 100000 in
theorem d_law_821 : decode code 821 = .ok (.aload_n 0, 1) := by decide +kernel
set_option maxRecDepth 100000 in
theorem d_law_822 : decode code 822 = .ok (.iload_n 3, 1) := by decide +kernel
set_option maxRecDepth 100000 in
theorem d_law_823 : decode code 823 = .ok (.iconst 3, 1) := by decide +kernel
set_option maxRecDepth 100000 in
theorem d_law_824 : decode code 824 = .ok (.iadd, 1) := by decide +kernel
set_option maxRecDepth 100000 in
theorem d_law_825 : decode code 825 = .ok (.iaload, 1) := by decide +kernel
set_option maxRecDepth 100000 in
theorem d_law_826 : decode code 826 = .ok (.aload_n 0, 1) := by decide +kernel
set_option maxRecDepth 100000 in
theorem d_law_827 : decode code 827 = .ok (.iload_n 3, 1) := by decide +kernel
set_option maxRecDepth 100000 in
theorem d_law_828 : decode code 828 = .ok (.iconst 4, 1) := by decide +kernel
set_option maxRecDepth 100000 in
theorem d_law_829 : decode code 829 = .ok (.iadd, 1) := by decide +kernel
set_option maxRecDepth 100000 in
theorem d_law_830 : decode code 830 = .ok (.iaload, 1) := by decide +kernel
set_option maxRecDepth 100000 in
theorem d_law_831 : decode code 831 = .ok (.aload_n 0, 1) := by decide +kernel
set_option maxRecDepth 100000 in
theorem d_law_832 : decode code 832 = .ok (.iload_n 3, 1) := by decide +kernel
set_option maxRecDepth 100000 in
theorem d_law_833 : decode code 833 = .ok (.iconst 5, 1) := by decide +kernel
set_option maxRecDepth 100000 in
theorem d_law_834 : decode code 834 = .ok (.iadd, 1) := by decide +kernel
set_option maxRecDepth 100000 in
theorem d_law_835 : decode code 835 = .ok (.iaload, 1) := by decide +kernel
set_option maxRecDepth 100000 in
theorem d_law_836 : decode code 836 = .ok (.invokevirtual 97, 3) := by decide +kernel
set_option maxRecDepth 100000 in
theorem d_law_839 : decode code 839 = .ok (.aload_n 2, 1) := by decide +kernel
set_option maxRecDepth 100000 in
theorem d_law_840 : decode code 840 = .ok (.aload_n 0, 1) := by decide +kernel
set_option maxRecDepth 100000 in
theorem d_law_841 : decode code 841 = .ok (.iload_n 3, 1) := by decide +kernel
set_option maxRecDepth 100000 in
theorem d_law_842 : decode code 842 = .ok (.iconst 1, 1) := by decide +kernel
set_option maxRecDepth 100000 in
theorem d_law_843 : decode code 843 = .ok (.iadd, 1) := by decide +kernel
set_option maxRecDepth 100000 in
theorem d_law_844 : decode code 844 = .ok (.iaload, 1) := by decide +kernel
set_option maxRecDepth 100000 in
theorem d_law_845 : decode code 845 = .ok (.aload_n 0, 1) := by decide +kernel
set_option maxRecDepth 100000 in
theorem d_law_846 : decode code 846 = .ok (.iload_n 3, 1) := by decide +kernel
set_option maxRecDepth 100000 in
theorem d_law_847 : decode code 847 = .ok (.iconst 2, 1) := by decide +kernel
set_option maxRecDepth 100000 in
theorem d_law_848 : decode code 848 = .ok (.iadd, 1) := by decide +kernel
set_option maxRecDepth 100000 in
theorem d_law_849 : decode code 849 = .ok (.iaload, 1) := by decide +kernel
set_option maxRecDepth 100000 in
theorem d_law_850 : decode code 850 = .ok (.aload_n 0, 1) := by decide +kernel
set_option maxRecDepth 100000 in
theorem d_law_851 : decode code 851 = .ok (.iload_n 3, 1) := by decide +kernel
set_option maxRecDepth 100000 in
theorem d_law_852 : decode code 852 = .ok (.iconst 3, 1) := by decide +kernel
set_option maxRecDepth 100000 in
theorem d_law_853 : decode code 853 = .ok (.iadd, 1) := by decide +kernel
set_option maxRecDepth 100000 in
theorem d_law_854 : decode code 854 = .ok (.iaload, 1) := by decide +kernel
set_option maxRecDepth 100000 in
theorem d_law_855 : decode code 855 = .ok (.aload_n 0, 1) := by decide +kernel
set_option maxRecDepth 100000 in
theorem d_law_856 : decode code 856 = .ok (.iload_n 3, 1) := by decide +kernel
set_option maxRecDepth 100000 in
theorem d_law_857 : decode code 857 = .ok (.iconst 4, 1) := by decide +kernel
set_option maxRecDepth 100000 in
theorem d_law_858 : decode code 858 = .ok (.iadd, 1) := by decide +kernel
set_option maxRecDepth 100000 in
theorem d_law_859 : decode code 859 = .ok (.iaload, 1) := by decide +kernel
set_option maxRecDepth 100000 in
theorem d_law_860 : decode code 860 = .ok (.aload_n 0, 1) := by decide +kernel
set_option maxRecDepth 100000 in
theorem d_law_861 : decode code 861 = .ok (.iload_n 3, 1) := by decide +kernel
set_option maxRecDepth 100000 in
theorem d_law_862 : decode code 862 = .ok (.iconst 5, 1) := by decide +kernel
set_option maxRecDepth 100000 in
theorem d_law_863 : decode code 863 = .ok (.iadd, 1) := by decide +kernel
set_option maxRecDepth 100000 in
theorem d_law_864 : decode code 864 = .ok (.iaload, 1) := by decide +kernel
set_option maxRecDepth 100000 in
theorem d_law_865 : decode code 865 = .ok (.invokevirtual 100, 3) := by decide +kernel
set_option maxRecDepth 100000 in
theorem d_law_868 : decode code 868 = .ok (.if_icmp .eq 391, 3) := by decide +kernel
set_option maxRecDepth 100000 in
theorem d_law_873 : decode code 873 = .ok (.aload_n 1, 1) := by decide +kernel
set_option maxRecDepth 100000 in
theorem d_law_874 : decode code 874 = .ok (.aload_n 0, 1) := by decide +kernel
set_option maxRecDepth 100000 in
theorem d_law_875 : decode code 875 = .ok (.iload_n 3, 1) := by decide +kernel
set_option maxRecDepth 100000 in
theorem d_law_876 : decode code 876 = .ok (.iconst 1, 1) := by decide +kernel
set_option maxRecDepth 100000 in
theorem d_law_877 : decode code 877 = .ok (.iadd, 1) := by decide +kernel
set_option maxRecDepth 100000 in
theorem d_law_878 : decode code 878 = .ok (.iaload, 1) := by decide +kernel
set_option maxRecDepth 100000 in
theorem d_law_879 : decode code 879 = .ok (.aload_n 0, 1) := by decide +kernel
set_option maxRecDepth 100000 in
theorem d_law_880 : decode code 880 = .ok (.iload_n 3, 1) := by decide +kernel
set_option maxRecDepth 100000 in
theorem d_law_881 : decode code 881 = .ok (.iconst 2, 1) := by decide +kernel
set_option maxRecDepth 100000 in
theorem d_law_882 : decode code 882 = .ok (.iadd, 1) := by decide +kernel
set_option maxRecDepth 100000 in
theorem d_law_883 : decode code 883 = .ok (.iaload, 1) := by decide +kernel
set_option maxRecDepth 100000 in
theorem d_law_884 : decode code 884 = .ok (.aload_n 0, 1) := by decide +kernel
set_option maxRecDepth 100000 in
theorem d_law_885 : decode code 885 = .ok (.iload_n 3, 1) := by decide +kernel
set_option maxRecDepth 100000 in
theorem d_law_886 : decode code 886 = .ok (.iconst 3, 1) := by decide +kernel
set_option maxRecDepth 100000 in
theorem d_law_887 : decode code 887 = .ok (.iadd, 1) := by decide +kernel
set_option maxRecDepth 100000 in
theorem d_law_888 : decode code 888 = .ok (.iaload, 1) := by decide +kernel
set_option maxRecDepth 100000 in
theorem d_law_889 : decode code 889 = .ok (.invokevirtual 101, 3) := by decide +kernel
set_option maxRecDepth 100000 in
theorem d_law_892 : decode code 892 = .ok (.aload_n 2, 1) := by decide +kernel
set_option maxRecDepth 100000 in
theorem d_law_893 : decode code 893 = .ok (.aload_n 0, 1) := by decide +kernel
set_option maxRecDepth 100000 in
theorem d_law_894 : decode code 894 = .ok (.iload_n 3, 1) := by decide +kernel
set_option maxRecDepth 100000 in
theorem d_law_895 : decode code 895 = .ok (.iconst 1, 1) := by decide +kernel
set_option maxRecDepth 100000 in
theorem d_law_896 : decode code 896 = .ok (.iadd, 1) := by decide +kernel
set_option maxRecDepth 100000 in
theorem d_law_897 : decode code 897 = .ok (.iaload, 1) := by decide +kernel
set_option maxRecDepth 100000 in
theorem d_law_898 : decode code 898 = .ok (.aload_n 0, 1) := by decide +kernel
set_option maxRecDepth 100000 in
theorem d_law_899 : decode code 899 = .ok (.iload_n 3, 1) := by decide +kernel
set_option maxRecDepth 100000 in
theorem d_law_900 : decode code 900 = .ok (.iconst 2, 1) := by decide +kernel
set_option maxRecDepth 100000 in
theorem d_law_901 : decode code 901 = .ok (.iadd, 1) := by decide +kernel
set_option maxRecDepth 100000 in
theorem d_law_902 : decode code 902 = .ok (.iaload, 1) := by decide +kernel
set_option maxRecDepth 100000 in
theorem d_law_903 : decode code 903 = .ok (.aload_n 0, 1) := by decide +kernel
set_option maxRecDepth 100000 in
theorem d_law_904 : decode code 904 = .ok (.iload_n 3, 1) := by decide +kernel
set_option maxRecDepth 100000 in
theorem d_law_905 : decode code 905 = .ok (.iconst 3, 1) := by decide +kernel
set_option maxRecDepth 100000 in
theorem d_law_906 : decode code 906 = .ok (.iadd, 1) := by decide +kernel
set_option maxRecDepth 100000 in
theorem d_law_907 : decode code 907 = .ok (.iaload, 1) := by decide +kernel
set_option maxRecDepth 100000 in
theorem d_law_908 : decode code 908 = .ok (.invokevirtual 104, 3) := by decide +kernel
set_option maxRecDepth 100000 in
theorem d_law_911 : decode code 911 = .ok (.if_icmp .eq 348, 3) := by decide +kernel
set_option maxRecDepth 100000 in
theorem d_law_916 : decode code 916 = .ok (.aload_n 1, 1) := by decide +kernel
set_option maxRecDepth 100000 in
theorem d_law_917 : decode code 917 = .ok (.aload_n 0, 1) := by decide +kernel
set_option maxRecDepth 100000 in
theorem d_law_918 : decode code 918 = .ok (.iload_n 3, 1) := by decide +kernel
set_option maxRecDepth 100000 in
theorem d_law_919 : decode code 919 = .ok (.iconst 1, 1) := by decide +kernel
set_option maxRecDepth 100000 in
theorem d_law_920 : decode code 920 = .ok (.iadd, 1) := by decide +kernel
set_option maxRecDepth 100000 in
theorem d_law_921 : decode code 921 = .ok (.iaload, 1) := by decide +kernel
set_option maxRecDepth 100000 in
theorem d_law_922 : decode code 922 = .ok (.aload_n 0, 1) := by decide +kernel
set_option maxRecDepth 100000 in
theorem d_law_923 : decode code 923 = .ok (.iload_n 3, 1) := by decide +kernel
set_option maxRecDepth 100000 in
theorem d_law_924 : decode code 924 = .ok (.iconst 2, 1) := by decide +kernel
set_option maxRecDepth 100000 in
theorem d_law_925 : decode code 925 = .ok (.iadd, 1) := by decide +kernel
set_option maxRecDepth 100000 in
theorem d_law_926 : decode code 926 = .ok (.iaload, 1) := by decide +kernel
set_option maxRecDepth 100000 in
theorem d_law_927 : decode code 927 = .ok (.aload_n 0, 1) := by decide +kernel
set_option maxRecDepth 100000 in
theorem d_law_928 : decode code 928 = .ok (.iload_n 3, 1) := by decide +kernel
set_option maxRecDepth 100000 in
theorem d_law_929 : decode code 929 = .ok (.iconst 3, 1) := by decide +kernel
set_option maxRecDepth 100000 in
theorem d_law_930 : decode code 930 = .ok (.iadd, 1) := by decide +kernel
set_option maxRecDepth 100000 in
theorem d_law_931 : decode code 931 = .ok (.iaload, 1) := by decide +kernel
set_option maxRecDepth 100000 in
theorem d_law_932 : decode code 932 = .ok (.aload_n 0, 1) := by decide +kernel
set_option maxRecDepth 100000 in
theorem d_law_933 : decode code 933 = .ok (.iload_n 3, 1) := by decide +kernel
set_option maxRecDepth 100000 in
theorem d_law_934 : decode code 934 = .ok (.iconst 4, 1) := by decide +kernel
set_option maxRecDepth 100000 in
theorem d_law_935 : decode code 935 = .ok (.iadd, 1) := by decide +kernel
set_option maxRecDepth 100000 in
theorem d_law_936 : decode code 936 = .ok (.iaload, 1) := by decide +kernel
set_option maxRecDepth 100000 in
theorem d_law_937 : decode code 937 = .ok (.invokevirtual 105, 3) := by decide +kernel
set_option maxRecDepth 100000 in
theorem d_law_940 : decode code 940 = .ok (.aload_n 2, 1) := by decide +kernel
set_option maxRecDepth 100000 in
theorem d_law_941 : decode code 941 = .ok (.aload_n 0, 1) := by decide +kernel
set_option maxRecDepth 100000 in
theorem d_law_942 : decode code 942 = .ok (.iload_n 3, 1) := by decide +kernel
set_option maxRecDepth 100000 in
theorem d_law_943 : decode code 943 = .ok (.iconst 1, 1) := by decide +kernel
set_option maxRecDepth 100000 in
theorem d_law_944 : decode code 944 = .ok (.iadd, 1) := by decide +kernel
set_option maxRecDepth 100000 in
theorem d_law_945 : decode code 945 = .ok (.iaload, 1) := by decide +kernel
set_option maxRecDepth 100000 in
theorem d_law_946 : decode code 946 = .ok (.aload_n 0, 1) := by decide +kernel
set_option maxRecDepth 100000 in
theorem d_law_947 : decode code 947 = .ok (.iload_n 3, 1) := by decide +kernel
set_option maxRecDepth 100000 in
theorem d_law_948 : decode code 948 = .ok (.iconst 2, 1) := by decide +kernel
set_option maxRecDepth 100000 in
theorem d_law_949 : decode code 949 = .ok (.iadd, 1) := by decide +kernel
set_option maxRecDepth 100000 in
theorem d_law_950 : decode code 950 = .ok (.iaload, 1) := by decide +kernel
set_option maxRecDepth 100000 in
theorem d_law_951 : decode code 951 = .ok (.aload_n 0, 1) := by decide +kernel
set_option maxRecDepth 100000 in
theorem d_law_952 : decode code 952 = .ok (.iload_n 3, 1) := by decide +kernel
set_option maxRecDepth 100000 in
theorem d_law_953 : decode code 953 = .ok (.iconst 3, 1) := by decide +kernel
set_option maxRecDepth 100000 in
theorem d_law_954 : decode code 954 = .ok (.iadd, 1) := by decide +kernel
set_option maxRecDepth 100000 in
theorem d_law_955 : decode code 955 = .ok (.iaload, 1) := by decide +kernel
set_option maxRecDepth 100000 in
theorem d_law_956 : decode code 956 = .ok (.aload_n 0, 1) := by decide +kernel
set_option maxRecDepth 100000 in
theorem d_law_957 : decode code 957 = .ok (.iload_n 3, 1) := by decide +kernel
set_option maxRecDepth 100000 in
theorem d_law_958 : decode code 958 = .ok (.iconst 4, 1) := by decide +kernel
set_option maxRecDepth 100000 in
theorem d_law_959 : decode code 959 = .ok (.iadd, 1) := by decide +kernel
set_option maxRecDepth 100000 in
theorem d_law_960 : decode code 960 = .ok (.iaload, 1) := by decide +kernel
set_option maxRecDepth 100000 in
theorem d_law_961 : decode code 961 = .ok (.invokevirtual 109, 3) := by decide +kernel
set_option maxRecDepth 100000 in
theorem d_law_964 : decode code 964 = .ok (.if_icmp .eq 295, 3) := by decide +kernel
set_option maxRecDepth 100000 in
theorem d_law_969 : decode code 969 = .ok (.aload_n 1, 1) := by decide +kernel
set_option maxRecDepth 100000 in
theorem d_law_970 : decode code 970 = .ok (.aload_n 0, 1) := by decide +kernel
set_option maxRecDepth 100000 in
theorem d_law_971 : decode code 971 = .ok (.iload_n 3, 1) := by decide +kernel
set_option maxRecDepth 100000 in
theorem d_law_972 : decode code 972 = .ok (.iconst 1, 1) := by decide +kernel
set_option maxRecDepth 100000 in
theorem d_law_973 : decode code 973 = .ok (.iadd, 1) := by decide +kernel
set_option maxRecDepth 100000 in
theorem d_law_974 : decode code 974 = .ok (.iaload, 1) := by decide +kernel
set_option maxRecDepth 100000 in
theorem d_law_975 : decode code 975 = .ok (.invokevirtual 110, 3) := by decide +kernel
set_option maxRecDepth 100000 in
theorem d_law_978 : decode code 978 = .ok (.aload_n 2, 1) := by decide +kernel
set_option maxRecDepth 100000 in
theorem d_law_979 : decode code 979 = .ok (.aload_n 0, 1) := by decide +kernel
set_option maxRecDepth 100000 in
theorem d_law_980 : decode code 980 = .ok (.iload_n 3, 1) := by decide +kernel
set_option maxRecDepth 100000 in
theorem d_law_981 : decode code 981 = .ok (.iconst 1, 1) := by decide +kernel
set_option maxRecDepth 100000 in
theorem d_law_982 : decode code 982 = .ok (.iadd, 1) := by decide +kernel
set_option maxRecDepth 100000 in
theorem d_law_983 : decode code 983 = .ok (.iaload, 1) := by decide +kernel
set_option maxRecDepth 100000 in
theorem d_law_984 : decode code 984 = .ok (.invokevirtual 113, 3) := by decide +kernel
set_option maxRecDepth 100000 in
theorem d_law_987 : decode code 987 = .ok (.if_icmp .eq 272, 3) := by decide +kernel
set_option maxRecDepth 100000 in
theorem d_law_992 : decode code 992 = .ok (.aload_n 1, 1) := by decide +kernel
set_option maxRecDepth 100000 in
theorem d_law_993 : decode code 993 = .ok (.aload_n 0, 1) := by decide +kernel
set_option maxRecDepth 100000 in
theorem d_law_994 : decode code 994 = .ok (.iload_n 3, 1) := by decide +kernel
set_option maxRecDepth 100000 in
theorem d_law_995 : decode code 995 = .ok (.iconst 1, 1) := by decide +kernel
set_option maxRecDepth 100000 in
theorem d_law_996 : decode code 996 = .ok (.iadd, 1) := by decide +kernel
set_option maxRecDepth 100000 in
theorem d_law_997 : decode code 997 = .ok (.iaload, 1) := by decide +kernel
set_option maxRecDepth 100000 in
theorem d_law_998 : decode code 998 = .ok (.aload_n 0, 1) := by decide +kernel
set_option maxRecDepth 100000 in
theorem d_law_999 : decode code 999 = .ok (.iload_n 3, 1) := by decide +kernel
set_option maxRecDepth 100000 in
theorem d_law_1000 : decode code 1000 = .ok (.iconst 2, 1) := by decide +kernel
set_option maxRecDepth 100000 in
theorem d_law_1001 : decode code 1001 = .ok (.iadd, 1) := by decide +kernel
set_option maxRecDepth 100000 in
theorem d_law_1002 : decode code 1002 = .ok (.iaload, 1) := by decide +kernel
set_option maxRecDepth 100000 in
theorem d_law_1003 : decode code 1003 = .ok (.aload_n 0, 1) := by decide +kernel
set_option maxRecDepth 100000 in
theorem d_law_1004 : decode code 1004 = .ok (.iload_n 3, 1) := by decide +kernel
set_option maxRecDepth 100000 in
theorem d_law_1005 : decode code 1005 = .ok (.iconst 3, 1) := by decide +kernel
set_option maxRecDepth 100000 in
theorem d_law_1006 : decode code 1006 = .ok (.iadd, 1) := by decide +kernel
set_option maxRecDepth 100000 in
theorem d_law_1007 : decode code 1007 = .ok (.iaload, 1) := by decide +kernel
set_option maxRecDepth 100000 in
theorem d_law_1008 : decode code 1008 = .ok (.invokevirtual 114, 3) := by decide +kernel
set_option maxRecDepth 100000 in
theorem d_law_1011 : decode code 1011 = .ok (.aload_n 2, 1) := by decide +kernel
set_option maxRecDepth 100000 in
theorem d_law_1012 : decode code 1012 = .ok (.aload_n 0, 1) := by decide +kernel
set_option maxRecDepth 100000 in
theorem d_law_1013 : decode code 1013 = .ok (.iload_n 3, 1) := by decide +kernel
set_option maxRecDepth 100000 in
theorem d_law_1014 : decode code 1014 = .ok (.iconst 1, 1) := by decide +kernel
set_option maxRecDepth 100000 in
theorem d_law_1015 : decode code 1015 = .ok (.iadd, 1) := by decide +kernel
set_option maxRecDepth 100000 in
theorem d_law_1016 : decode code 1016 = .ok (.iaload, 1) := by decide +kernel
set_option maxRecDepth 100000 in
theorem d_law_1017 : decode code 1017 = .ok (.aload_n 0, 1) := by decide +kernel
set_option maxRecDepth 100000 in
theorem d_law_1018 : decode code 1018 = .ok (.iload_n 3, 1) := by decide +kernel
set_option maxRecDepth 100000 in
theorem d_law_1019 : decode code 1019 = .ok (.iconst 2, 1) := by decide +kernel
set_option maxRecDepth 100000 in
theorem d_law_1020 : decode code 1020 = .ok (.iadd, 1) := by decide +kernel
set_option maxRecDepth 100000 in
theorem d_law_1021 : decode code 1021 = .ok (.iaload, 1) := by decide +kernel
set_option maxRecDepth 100000 in
theorem d_law_1022 : decode code 1022 = .ok (.aload_n 0, 1) := by decide +kernel
set_option maxRecDepth 100000 in
theorem d_law_1023 : decode code 1023 = .ok (.iload_n 3, 1) := by decide +kernel
set_option maxRecDepth 100000 in
theorem d_law_1024 : decode code 1024 = .ok (.iconst 3, 1) := by decide +kernel
set_option maxRecDepth 100000 in
theorem d_law_1025 : decode code 1025 = .ok (.iadd, 1) := by decide +kernel
set_option maxRecDepth 100000 in
theorem d_law_1026 : decode code 1026 = .ok (.iaload, 1) := by decide +kernel
set_option maxRecDepth 100000 in
theorem d_law_1027 : decode code 1027 = .ok (.invokevirtual 117, 3) := by decide +kernel
set_option maxRecDepth 100000 in
theorem d_law_1030 : decode code 1030 = .ok (.if_icmp .eq 229, 3) := by decide +kernel
set_option maxRecDepth 100000 in
theorem d_law_1035 : decode code 1035 = .ok (.aload_n 1, 1) := by decide +kernel
set_option maxRecDepth 100000 in
theorem d_law_1036 : decode code 1036 = .ok (.aload_n 0, 1) := by decide +kernel
set_option maxRecDepth 100000 in
theorem d_law_1037 : decode code 1037 = .ok (.iload_n 3, 1) := by decide +kernel
set_option maxRecDepth 100000 in
theorem d_law_1038 : decode code 1038 = .ok (.iconst 1, 1) := by decide +kernel
set_option maxRecDepth 100000 in
theorem d_law_1039 : decode code 1039 = .ok (.iadd, 1) := by decide +kernel
set_option maxRecDepth 100000 in
theorem d_law_1040 : decode code 1040 = .ok (.iaload, 1) := by decide +kernel
set_option maxRecDepth 100000 in
theorem d_law_1041 : decode code 1041 = .ok (.aload_n 0, 1) := by decide +kernel
set_option maxRecDepth 100000 in
theorem d_law_1042 : decode code 1042 = .ok (.iload_n 3, 1) := by decide +kernel
set_option maxRecDepth 100000 in
theorem d_law_1043 : decode code 1043 = .ok (.iconst 2, 1) := by decide +kernel
set_option maxRecDepth 100000 in
theorem d_law_1044 : decode code 1044 = .ok (.iadd, 1) := by decide +kernel
set_option maxRecDepth 100000 in
theorem d_law_1045 : decode code 1045 = .ok (.iaload, 1) := by decide +kernel
set_option maxRecDepth 100000 in
theorem d_law_1046 : decode code 1046 = .ok (.invokevirtual 118, 3) := by decide +kernel
set_option maxRecDepth 100000 in
theorem d_law_1049 : decode code 1049 = .ok (.aload_n 2, 1) := by decide +kernel
set_option maxRecDepth 100000 in
theorem d_law_1050 : decode code 1050 = .ok (.aload_n 0, 1) := by decide +kernel
set_option maxRecDepth 100000 in
theorem d_law_1051 : decode code 1051 = .ok (.iload_n 3, 1) := by decide +kernel
set_option maxRecDepth 100000 in
theorem d_law_1052 : decode code 1052 = .ok (.iconst 1, 1) := by decide +kernel
set_option maxRecDepth 100000 in
theorem d_law_1053 : decode code 1053 = .ok (.iadd, 1) := by decide +kernel
set_option maxRecDepth 100000 in
theorem d_law_1054 : decode code 1054 = .ok (.iaload, 1) := by decide +kernel
set_option maxRecDepth 100000 in
theorem d_law_1055 : decode code 1055 = .ok (.aload_n 0, 1) := by decide +kernel
set_option maxRecDepth 100000 in
theorem d_law_1056 : decode code 1056 = .ok (.iload_n 3, 1) := by decide +kernel
set_option maxRecDepth 100000 in
theorem d_law_1057 : decode code 1057 = .ok (.iconst 2, 1) := by decide +kernel
set_option maxRecDepth 100000 in
theorem d_law_1058 : decode code 1058 = .ok (.iadd, 1) := by decide +kernel
set_option maxRecDepth 100000 in
theorem d_law_1059 : decode code 1059 = .ok (.iaload, 1) := by decide +kernel
set_option maxRecDepth 100000 in
theorem d_law_1060 : decode code 1060 = .ok (.invokevirtual 121, 3) := by decide +kernel
set_option maxRecDepth 100000 in
theorem d_law_1063 : decode code 1063 = .ok (.if_icmp .eq 196, 3) := by decide +kernel
set_option maxRecDepth 100000 in
theorem d_law_1068 : decode code 1068 = .ok (.aload_n 1, 1) := by decide +kernel
set_option maxRecDepth 100000 in
theorem d_law_1069 : decode code 1069 = .ok (.aload_n 0, 1) := by decide +kernel
set_option maxRecDepth 100000 in
theorem d_law_1070 : decode code 1070 = .ok (.iload_n 3, 1) := by decide +kernel
set_option maxRecDepth 100000 in
theorem d_law_1071 : decode code 1071 = .ok (.iconst 1, 1) := by decide +kernel
set_option maxRecDepth 100000 in
theorem d_law_1072 : decode code 1072 = .ok (.iadd, 1) := by decide +kernel
set_option maxRecDepth 100000 in
theorem d_law_1073 : decode code 1073 = .ok (.iaload, 1) := by decide +kernel
set_option maxRecDepth 100000 in
theorem d_law_1074 : decode code 1074 = .ok (.aload_n 0, 1) := by decide +kernel
set_option maxRecDepth 100000 in
theorem d_law_1075 : decode code 1075 = .ok (.iload_n 3, 1) := by decide +kernel
set_option maxRecDepth 100000 in
theorem d_law_1076 : decode code 1076 = .ok (.iconst 2, 1) := by decide +kernel
set_option maxRecDepth 100000 in
theorem d_law_1077 : decode code 1077 = .ok (.iadd, 1) := by decide +kernel
set_option maxRecDepth 100000 in
theorem d_law_1078 : decode code 1078 = .ok (.iaload, 1) := by decide +kernel
set_option maxRecDepth 100000 in
theorem d_law_1079 : decode code 1079 = .ok (.invokevirtual 122, 3) := by decide +kernel
set_option maxRecDepth 100000 in
theorem d_law_1082 : decode code 1082 = .ok (.aload_n 2, 1) := by decide +kernel
set_option maxRecDepth 100000 in
theorem d_law_1083 : decode code 1083 = .ok (.aload_n 0, 1) := by decide +kernel
set_option maxRecDepth 100000 in
theorem d_law_1084 : decode code 1084 = .ok (.iload_n 3, 1) := by decide +kernel
set_option maxRecDepth 100000 in
theorem d_law_1085 : decode code 1085 = .ok (.iconst 1, 1) := by decide +kernel
set_option maxRecDepth 100000 in
theorem d_law_1086 : decode code 1086 = .ok (.iadd, 1) := by decide +kernel
set_option maxRecDepth 100000 in
theorem d_law_1087 : decode code 1087 = .ok (.iaload, 1) := by decide +kernel
set_option maxRecDepth 100000 in
theorem d_law_1088 : decode code 1088 = .ok (.aload_n 0, 1) := by decide +kernel
set_option maxRecDepth 100000 in
theorem d_law_1089 : decode code 1089 = .ok (.iload_n 3, 1) := by decide +kernel
set_option maxRecDepth 100000 in
theorem d_law_1090 : decode code 1090 = .ok (.iconst 2, 1) := by decide +kernel
set_option maxRecDepth 100000 in
theorem d_law_1091 : decode code 1091 = .ok (.iadd, 1) := by decide +kernel
set_option maxRecDepth 100000 in
theorem d_law_1092 : decode code 1092 = .ok (.iaload, 1) := by decide +kernel
set_option maxRecDepth 100000 in
theorem d_law_1093 : decode code 1093 = .ok (.invokevirtual 125, 3) := by decide +kernel
set_option maxRecDepth 100000 in
theorem d_law_1096 : decode code 1096 = .ok (.if_icmp .eq 163, 3) := by decide +kernel
set_option maxRecDepth 100000 in
theorem d_law_1101 : decode code 1101 = .ok (.aload_n 1, 1) := by decide +kernel
set_option maxRecDepth 100000 in
theorem d_law_1102 : decode code 1102 = .ok (.aload_n 0, 1) := by decide +kernel
set_option maxRecDepth 100000 in
theorem d_law_1103 : decode code 1103 = .ok (.iload_n 3, 1) := by decide +kernel
set_option maxRecDepth 100000 in
theorem d_law_1104 : decode code 1104 = .ok (.iconst 1, 1) := by decide +kernel
set_option maxRecDepth 100000 in
theorem d_law_1105 : decode code 1105 = .ok (.iadd, 1) := by decide +kernel
set_option maxRecDepth 100000 in
theorem d_law_1106 : decode code 1106 = .ok (.iaload, 1) := by decide +kernel
set_option maxRecDepth 100000 in
theorem d_law_1107 : decode code 1107 = .ok (.aload_n 0, 1) := by decide +kernel
set_option maxRecDepth 100000 in
theorem d_law_1108 : decode code 1108 = .ok (.iload_n 3, 1) := by decide +kernel
set_option maxRecDepth 100000 in
theorem d_law_1109 : decode code 1109 = .ok (.iconst 2, 1) := by decide +kernel
set_option maxRecDepth 100000 in
theorem d_law_1110 : decode code 1110 = .ok (.iadd, 1) := by decide +kernel
set_option maxRecDepth 100000 in
theorem d_law_1111 : decode code 1111 = .ok (.iaload, 1) := by decide +kernel
set_option maxRecDepth 100000 in
theorem d_law_1112 : decode code 1112 = .ok (.invokevirtual 126, 3) := by decide +kernel
set_option maxRecDepth 100000 in
theorem d_law_1115 : decode code 1115 = .ok (.aload_n 2, 1) := by decide +kernel
set_option maxRecDepth 100000 in
theorem d_law_1116 : decode code 1116 = .ok (.aload_n 0, 1) := by decide +kernel
set_option maxRecDepth 100000 in
theorem d_law_1117 : decode code 1117 = .ok (.iload_n 3, 1) := by decide +kernel
set_option maxRecDepth 100000 in
theorem d_law_1118 : decode code 1118 = .ok (.iconst 1, 1) := by decide +kernel
set_option maxRecDepth 100000 in
theorem d_law_1119 : decode code 1119 = .ok (.iadd, 1) := by decide +kernel
set_option maxRecDepth 100000 in
theorem d_law_1120 : decode code 1120 = .ok (.iaload, 1) := by decide +kernel
set_option maxRecDepth 100000 in
theorem d_law_1121 : decode code 1121 = .ok (.aload_n 0, 1) := by decide +kernel
set_option maxRecDepth 100000 in
theorem d_law_1122 : decode code 1122 = .ok (.iload_n 3, 1) := by decide +kernel
set_option maxRecDepth 100000 in
theorem d_law_1123 : decode code 1123 = .ok (.iconst 2, 1) := by decide +kernel
set_option maxRecDepth 100000 in
theorem d_law_1124 : decode code 1124 = .ok (.iadd, 1) := by decide +kernel
set_option maxRecDepth 100000 in
theorem d_law_1125 : decode code 1125 = .ok (.iaload, 1) := by decide +kernel
set_option maxRecDepth 100000 in
theorem d_law_1126 : decode code 1126 = .ok (.invokevirtual 129, 3) := by decide +kernel
set_option maxRecDepth 100000 in
theorem d_law_1129 : decode code 1129 = .ok (.if_icmp .eq 130, 3) := by decide +kernel
set_option maxRecDepth 100000 in
theorem d_law_1134 : decode code 1134 = .ok (.aload_n 1, 1) := by decide +kernel
set_option maxRecDepth 100000 in
theorem d_law_1135 : decode code 1135 = .ok (.aload_n 0, 1) := by decide +kernel
set_option maxRecDepth 100000 in
theorem d_law_1136 : decode code 1136 = .ok (.iload_n 3, 1) := by decide +kernel
set_option maxRecDepth 100000 in
theorem d_law_1137 : decode code 1137 = .ok (.iconst 1, 1) := by decide +kernel
set_option maxRecDepth 100000 in
theorem d_law_1138 : decode code 1138 = .ok (.iadd, 1) := by decide +kernel
set_option maxRecDepth 100000 in
theorem d_law_1139 : decode code 1139 = .ok (.iaload, 1) := by decide +kernel
set_option maxRecDepth 100000 in
theorem d_law_1140 : decode code 1140 = .ok (.aload_n 0, 1) := by decide +kernel
set_option maxRecDepth 100000 in
theorem d_law_1141 : decode code 1141 = .ok (.iload_n 3, 1) := by decide +kernel
set_option maxRecDepth 100000 in
theorem d_law_1142 : decode code 1142 = .ok (.iconst 2, 1) := by decide +kernel
set_option maxRecDepth 100000 in
theorem d_law_1143 : decode code 1143 = .ok (.iadd, 1) := by decide +kernel
set_option maxRecDepth 100000 in
theorem d_law_1144 : decode code 1144 = .ok (.iaload, 1) := by decide +kernel
set_option maxRecDepth 100000 in
theorem d_law_1145 : decode code 1145 = .ok (.invokevirtual 130, 3) := by decide +kernel
set_option maxRecDepth 100000 in
theorem d_law_1148 : decode code 1148 = .ok (.aload_n 2, 1) := by decide +kernel
set_option maxRecDepth 100000 in
theorem d_law_1149 : decode code 1149 = .ok (.aload_n 0, 1) := by decide +kernel
set_option maxRecDepth 100000 in
theorem d_law_1150 : decode code 1150 = .ok (.iload_n 3, 1) := by decide +kernel
set_option maxRecDepth 100000 in
theorem d_law_1151 : decode code 1151 = .ok (.iconst 1, 1) := by decide +kernel
set_option maxRecDepth 100000 in
theorem d_law_1152 : decode code 1152 = .ok (.iadd, 1) := by decide +kernel
set_option maxRecDepth 100000 in
theorem d_law_1153 : decode code 1153 = .ok (.iaload, 1) := by decide +kernel
set_option maxRecDepth 100000 in
theorem d_law_1154 : decode code 1154 = .ok (.aload_n 0, 1) := by decide +kernel
set_option maxRecDepth 100000 in
theorem d_law_1155 : decode code 1155 = .ok (.iload_n 3, 1) := by decide +kernel
set_option maxRecDepth 100000 in
theorem d_law_1156 : decode code 1156 = .ok (.iconst 2, 1) := by decide +kernel
set_option maxRecDepth 100000 in
theorem d_law_1157 : decode code 1157 = .ok (.iadd, 1) := by decide +kernel
set_option maxRecDepth 100000 in
theorem d_law_1158 : decode code 1158 = .ok (.iaload, 1) := by decide +kernel
set_option maxRecDepth 100000 in
theorem d_law_1159 : decode code 1159 = .ok (.invokevirtual 133, 3) := by decide +kernel
set_option maxRecDepth 100000 in
theorem d_law_1162 : decode code 1162 = .ok (.if_icmp .eq 97, 3) := by decide +kernel
set_option maxRecDepth 100000 in
theorem d_law_1167 : decode code 1167 = .ok (.aload_n 1, 1) := by decide +kernel
set_option maxRecDepth 100000 in
theorem d_law_1168 : decode code 1168 = .ok (.invokevirtual 134, 3) := by decide +kernel
set_option maxRecDepth 100000 in
theorem d_law_1171 : decode code 1171 = .ok (.aload_n 2, 1) := by decide +kernel
set_option maxRecDepth 100000 in
theorem d_law_1172 : decode code 1172 = .ok (.invokevirtual 138, 3) := by decide +kernel
set_option maxRecDepth 100000 in
theorem d_law_1175 : decode code 1175 = .ok (.if_icmp .eq 84, 3) := by decide +kernel
set_option maxRecDepth 100000 in
theorem d_law_1180 : decode code 1180 = .ok (.aload_n 1, 1) := by decide +kernel
set_option maxRecDepth 100000 in
theorem d_law_1181 : decode code 1181 = .ok (.aload_n 0, 1) := by decide +kernel
set_option maxRecDepth 100000 in
theorem d_law_1182 : decode code 1182 = .ok (.iload_n 3, 1) := by decide +kernel
set_option maxRecDepth 100000 in
theorem d_law_1183 : decode code 1183 = .ok (.iconst 1, 1) := by decide +kernel
set_option maxRecDepth 100000 in
theorem d_law_1184 : decode code 1184 = .ok (.iadd, 1) := by decide +kernel
set_option maxRecDepth 100000 in
theorem d_law_1185 : decode code 1185 = .ok (.iaload, 1) := by decide +kernel
set_option maxRecDepth 100000 in
theorem d_law_1186 : decode code 1186 = .ok (.aload_n 0, 1) := by decide +kernel
set_option maxRecDepth 100000 in
theorem d_law_1187 : decode code 1187 = .ok (.iload_n 3, 1) := by decide +kernel
set_option maxRecDepth 100000 in
theorem d_law_1188 : decode code 1188 = .ok (.iconst 2, 1) := by decide +kernel
set_option maxRecDepth 100000 in
theorem d_law_1189 : decode code 1189 = .ok (.iadd, 1) := by decide +kernel
set_option maxRecDepth 100000 in
theorem d_law_1190 : decode code 1190 = .ok (.iaload, 1) := by decide +kernel
set_option maxRecDepth 100000 in
theorem d_law_1191 : decode code 1191 = .ok (.invokevirtual 139, 3) := by decide +kernel
set_option maxRecDepth 100000 in
theorem d_law_1194 : decode code 1194 = .ok (.aload_n 2, 1) := by decide +kernel
set_option maxRecDepth 100000 in
theorem d_law_1195 : decode code 1195 = .ok (.aload_n 0, 1) := by decide +kernel
set_option maxRecDepth 100000 in
theorem d_law_1196 : decode code 1196 = .ok (.iload_n 3, 1) := by decide +kernel
set_option maxRecDepth 100000 in
theorem d_law_1197 : decode code 1197 = .ok (.iconst 1, 1) := by decide +kernel
set_option maxRecDepth 100000 in
theorem d_law_1198 : decode code 1198 = .ok (.iadd, 1) := by decide +kernel
set_option maxRecDepth 100000 in
theorem d_law_1199 : decode code 1199 = .ok (.iaload, 1) := by decide +kernel
set_option maxRecDepth 100000 in
theorem d_law_1200 : decode code 1200 = .ok (.aload_n 0, 1) := by decide +kernel
set_option maxRecDepth 100000 in
theorem d_law_1201 : decode code 1201 = .ok (.iload_n 3, 1) := by decide +kernel
set_option maxRecDepth 100000 in
theorem d_law_1202 : decode code 1202 = .ok (.iconst 2, 1) := by decide +kernel
set_option maxRecDepth 100000 in
theorem d_law_1203 : decode code 1203 = .ok (.iadd, 1) := by decide +kernel
set_option maxRecDepth 100000 in
theorem d_law_1204 : decode code 1204 = .ok (.iaload, 1) := by decide +kernel
set_option maxRecDepth 100000 in
theorem d_law_1205 : decode code 1205 = .ok (.invokevirtual 142, 3) := by decide +kernel
set_option maxRecDepth 100000 in
theorem d_law_1208 : decode code 1208 = .ok (.if_icmp .eq 51, 3) := by decide +kernel
set_option maxRecDepth 100000 in
theorem d_law_1213 : decode code 1213 = .ok (.aload_n 1, 1) := by decide +kernel
set_option maxRecDepth 100000 in
theorem d_law_1214 : decode code 1214 = .ok (.aload_n 0, 1) := by decide +kernel
set_option maxRecDepth 100000 in
theorem d_law_1215 : decode code 1215 = .ok (.iload_n 3, 1) := by decide +kernel
set_option maxRecDepth 100000 in
theorem d_law_1216 : decode code 1216 = .ok (.iconst 1, 1) := by decide +kernel
set_option maxRecDepth 100000 in
theorem d_law_1217 : decode code 1217 = .ok (.iadd, 1) := by decide +kernel
set_option maxRecDepth 100000 in
theorem d_law_1218 : decode code 1218 = .ok (.iaload, 1) := by decide +kernel
set_option maxRecDepth 100000 in
theorem d_law_1219 : decode code 1219 = .ok (.invokevirtual 143, 3) := by decide +kernel
set_option maxRecDepth 100000 in
theorem d_law_1222 : decode code 1222 = .ok (.aload_n 2, 1) := by decide +kernel
set_option maxRecDepth 100000 in
theorem d_law_1223 : decode code 1223 = .ok (.aload_n 0, 1) := by decide +kernel
set_option maxRecDepth 100000 in
theorem d_law_1224 : decode code 1224 = .ok (.iload_n 3, 1) := by decide +kernel
set_option maxRecDepth 100000 in
theorem d_law_1225 : decode code 1225 = .ok (.iconst 1, 1) := by decide +kernel
set_option maxRecDepth 100000 in
theorem d_law_1226 : decode code 1226 = .ok (.iadd, 1) := by decide +kernel
set_option maxRecDepth 100000 in
theorem d_law_1227 : decode code 1227 = .ok (.iaload, 1) := by decide +kernel
set_option maxRecDepth 100000 in
theorem d_law_1228 : decode code 1228 = .ok (.invokevirtual 146, 3) := by decide +kernel
set_option maxRecDepth 100000 in
theorem d_law_1231 : decode code 1231 = .ok (.if_icmp .eq 28, 3) := by decide +kernel
set_option maxRecDepth 100000 in
theorem d_law_1236 : decode code 1236 = .ok (.aload_n 1, 1) := by decide +kernel
set_option maxRecDepth 100000 in
theorem d_law_1237 : decode code 1237 = .ok (.aload_n 0, 1) := by decide +kernel
set_option maxRecDepth 100000 in
theorem d_law_1238 : decode code 1238 = .ok (.iload_n 3, 1) := by decide +kernel
set_option maxRecDepth 100000 in
theorem d_law_1239 : decode code 1239 = .ok (.iconst 1, 1) := by decide +kernel
set_option maxRecDepth 100000 in
theorem d_law_1240 : decode code 1240 = .ok (.iadd, 1) := by decide +kernel
set_option maxRecDepth 100000 in
theorem d_law_1241 : decode code 1241 = .ok (.iaload, 1) := by decide +kernel
set_option maxRecDepth 100000 in
theorem d_law_1242 : decode code 1242 = .ok (.invokevirtual 147, 3) := by decide +kernel
set_option maxRecDepth 100000 in
theorem d_law_1245 : decode code 1245 = .ok (.aload_n 2, 1) := by decide +kernel
set_option maxRecDepth 100000 in
theorem d_law_1246 : decode code 1246 = .ok (.aload_n 0, 1) := by decide +kernel
set_option maxRecDepth 100000 in
theorem d_law_1247 : decode code 1247 = .ok (.iload_n 3, 1) := by decide +kernel
set_option maxRecDepth 100000 in
theorem d_law_1248 : decode code 1248 = .ok (.iconst 1, 1) := by decide +kernel
set_option maxRecDepth 100000 in
theorem d_law_1249 : decode code 1249 = .ok (.iadd, 1) := by decide +kernel
set_option maxRecDepth 100000 in
theorem d_law_1250 : decode code 1250 = .ok (.iaload, 1) := by decide +kernel
set_option maxRecDepth 100000 in
theorem d_law_1251 : decode code 1251 = .ok (.invokevirtual 150, 3) := by decide +kernel
set_option maxRecDepth 100000 in
theorem d_law_1254 : decode code 1254 = .ok (.if_icmp .eq 5, 3) := by decide +kernel
set_option maxRecDepth 100000 in
theorem d_law_1259 : decode code 1259 = .ok (.iinc 3 6, 3) := by decide +kernel
set_option maxRecDepth 100000 in
theorem d_law_1262 : decode code 1262 = .ok (.goto (-1244), 3) := by decide +kernel
set_option maxRecDepth 100000 in
theorem d_law_1265 : decode code 1265 = .ok (.iconst 1, 1) := by decide +kernel
set_option maxRecDepth 100000 in
theorem d_law_1266 : decode code 1266 = .ok (.ireturn, 1) := by decide +kernel
set_option maxRecDepth 100000 in
theorem d_Bx_firstShortDay_0 : decode b_Bx_firstShortDay 0 = .ok (.lconst 0, 1) := by decide +kernel
set_option maxRecDepth 100000 in
theorem d_Bx_firstShortDay_1 : decode b_Bx_firstShortDay 1 = .ok (.lstore_n 2, 1) := by decide +kernel
set_option maxRecDepth 100000 in
theorem d_Bx_firstShortDay_2 : decode b_Bx_firstShortDay 2 = .ok (.iconst 0, 1) := by decide +kernel
set_option maxRecDepth 100000 in
theorem d_Bx_firstShortDay_3 : decode b_Bx_firstShortDay 3 = .ok (.iload_n 1, 1) := by decide +kernel
set_option maxRecDepth 100000 in
theorem d_Bx_firstShortDay_4 : decode b_Bx_firstShortDay 4 = .ok (.bipush 100, 2) := by decide +kernel
set_option maxRecDepth 100000 in
theorem d_Bx_firstShortDay_6 : decode b_Bx_firstShortDay 6 = .ok (.isub, 1) := by decide +kernel
set_option maxRecDepth 100000 in
theorem d_Bx_firstShortDay_7 : decode b_Bx_firstShortDay 7 = .ok (.invokestatic 51, 3) := by decide +kernel
set_option maxRecDepth 100000 in
theorem d_Bx_firstShortDay_10 : decode b_Bx_firstShortDay 10 = .ok (.istore 4, 2) := by decide +kernel
set_option maxRecDepth 100000 in
theorem d_Bx_firstShortDay_12 : decode b_Bx_firstShortDay 12 = .ok (.iload 4, 2) := by decide +kernel
set_option maxRecDepth 100000 in
theorem d_Bx_firstShortDay_14 : decode b_Bx_firstShortDay 14 = .ok (.iload_n 1, 1) := by decide +kernel
set_option maxRecDepth 100000 in
theorem d_Bx_firstShortDay_15 : decode b_Bx_firstShortDay 15 = .ok (.if_icmp .gt 20, 3) := by decide +kernel
set_option maxRecDepth 100000 in
theorem d_Bx_firstShortDay_18 : decode b_Bx_firstShortDay 18 = .ok (.lload_n 2, 1) := by decide +kernel
set_option maxRecDepth 100000 in
theorem d_Bx_firstShortDay_19 : decode b_Bx_firstShortDay 19 = .ok (.aload_n 0, 1) := by decide +kernel
set_option maxRecDepth 100000 in
theorem d_Bx_firstShortDay_20 : decode b_Bx_firstShortDay 20 = .ok (.getfield 9, 3) := by decide +kernel
set_option maxRecDepth 100000 in
theorem d_Bx_firstShortDay_23 : decode b_Bx_firstShortDay 23 = .ok (.iload 4, 2) := by decide +kernel
set_option maxRecDepth 100000 in
theorem d_Bx_firstShortDay_25 : decode b_Bx_firstShortDay 25 = .ok (.iaload, 1) := by decide +kernel
set_option maxRecDepth 100000 in
theorem d_Bx_firstShortDay_26 : decode b_Bx_firstShortDay 26 = .ok (.i2l, 1) := by decide +kernel
set_option maxRecDepth 100000 in
theorem d_Bx_firstShortDay_27 : decode b_Bx_firstShortDay 27 = .ok (.ladd, 1) := by decide +kernel
set_option maxRecDepth 100000 in
theorem d_Bx_firstShortDay_28 : decode b_Bx_firstShortDay 28 = .ok (.lstore_n 2, 1) := by decide +kernel
set_option maxRecDepth 100000 in
theorem d_Bx_firstShortDay_29 : decode b_Bx_firstShortDay 29 = .ok (.iinc 4 1, 3) := by decide +kernel
set_option maxRecDepth 100000 in
theorem d_Bx_firstShortDay_32 : decode b_Bx_firstShortDay 32 = .ok (.goto (-20), 3) := by decide +kernel
set_option maxRecDepth 100000 in
theorem d_Bx_firstShortDay_35 : decode b_Bx_firstShortDay 35 = .ok (.aload_n 0, 1) := by decide +kernel
set_option maxRecDepth 100000 in
theorem d_Bx_firstShortDay_36 : decode b_Bx_firstShortDay 36 = .ok (.getfield 21, 3) := by decide +kernel
set_option maxRecDepth 100000 in
theorem d_Bx_firstShortDay_39 : decode b_Bx_firstShortDay 39 = .ok (.i2l, 1) := by decide +kernel
set_option maxRecDepth 100000 in
theorem d_Bx_firstShortDay_40 : decode b_Bx_firstShortDay 40 = .ok (.lstore 4, 2) := by decide +kernel
set_option maxRecDepth 100000 in
theorem d_Bx_firstShortDay_42 : decode b_Bx_firstShortDay 42 = .ok (.iload_n 1, 1) := by decide +kernel
set_option maxRecDepth 100000 in
theorem d_Bx_firstShortDay_43 : decode b_Bx_firstShortDay 43 = .ok (.iload_n 1, 1) := by decide +kernel
set_option maxRecDepth 100000 in
theorem d_Bx_firstShortDay_44 : decode b_Bx_firstShortDay 44 = .ok (.bipush 100, 2) := by decide +kernel
set_option maxRecDepth 100000 in
theorem d_Bx_firstShortDay_46 : decode b_Bx_firstShortDay 46 = .ok (.irem, 1) := by decide +kernel
set_option maxRecDepth 100000 in
theorem d_Bx_firstShortDay_47 : decode b_Bx_firstShortDay 47 = .ok (.isub, 1) := by decide +kernel
set_option maxRecDepth 100000 in
theorem d_Bx_firstShortDay_48 : decode b_Bx_firstShortDay 48 = .ok (.istore 6, 2) := by decide +kernel
set_option maxRecDepth 100000 in
theorem d_Bx_firstShortDay_50 : decode b_Bx_firstShortDay 50 = .ok (.iconst 0, 1) := by decide +kernel
set_option maxRecDepth 100000 in
theorem d_Bx_firstShortDay_51 : decode b_Bx_firstShortDay 51 = .ok (.istore 7, 2) := by decide +kernel
set_option maxRecDepth 100000 in
theorem d_Bx_firstShortDay_53 : decode b_Bx_firstShortDay 53 = .ok (.iload 7, 2) := by decide +kernel
set_option maxRecDepth 100000 in
theorem d_Bx_firstShortDay_55 : decode b_Bx_firstShortDay 55 = .ok (.bipush 40, 2) := by decide +kernel
set_option maxRecDepth 100000 in
theorem d_Bx_firstShortDay_57 : decode b_Bx_firstShortDay 57 = .ok (.if_icmp .ge 36, 3) := by decide +kernel
set_option maxRecDepth 100000 in
theorem d_Bx_firstShortDay_60 : decode b_Bx_firstShortDay 60 = .ok (.iinc 6 100, 3) := by decide +kernel
set_option maxRecDepth 100000 in
theorem d_Bx_firstShortDay_63 : decode b_Bx_firstShortDay 63 = .ok (.lload 4, 2) := by decide +kernel
set_option maxRecDepth 100000 in
theorem d_Bx_firstShortDay_65 : decode b_Bx_firstShortDay 65 = .ok (.lload_n 2, 1) := by decide +kernel
set_option maxRecDepth 100000 in
theorem d_Bx_firstShortDay_66 : decode b_Bx_firstShortDay 66 = .ok (.aload_n 0, 1) := by decide +kernel
set_option maxRecDepth 100000 in
theorem d_Bx_firstShortDay_67 : decode b_Bx_firstShortDay 67 = .ok (.iload 6, 2) := by decide +kernel
set_option maxRecDepth 100000 in
theorem d_Bx_firstShortDay_69 : decode b_Bx_firstShortDay 69 = .ok (.invokevirtual 57, 3) := by decide +kernel
set_option maxRecDepth 100000 in
theorem d_Bx_firstShortDay_72 : decode b_Bx_firstShortDay 72 = .ok (.i2l, 1) := by decide +kernel
set_option maxRecDepth 100000 in
theorem d_Bx_firstShortDay_73 : decode b_Bx_firstShortDay 73 = .ok (.lsub, 1) := by decide +kernel
set_option maxRecDepth 100000 in
theorem d_Bx_firstShortDay_74 : decode b_Bx_firstShortDay 74 = .ok (.ladd, 1) := by decide +kernel
set_option maxRecDepth 100000 in
theorem d_Bx_firstShortDay_75 : decode b_Bx_firstShortDay 75 = .ok (.lstore 4, 2) := by decide +kernel
set_option maxRecDepth 100000 in
theorem d_Bx_firstShortDay_77 : decode b_Bx_firstShortDay 77 = .ok (.lload 4, 2) := by decide +kernel
set_option maxRecDepth 100000 in
theorem d_Bx_firstShortDay_79 : decode b_Bx_firstShortDay 79 = .ok (.lconst 0, 1) := by decide +kernel
set_option maxRecDepth 100000 in
theorem d_Bx_firstShortDay_80 : decode b_Bx_firstShortDay 80 = .ok (.lcmp, 1) := by decide +kernel
set_option maxRecDepth 100000 in
theorem d_Bx_firstShortDay_81 : decode b_Bx_firstShortDay 81 = .ok (.ifCond .ge 6, 3) := by decide +kernel
set_option maxRecDepth 100000 in
theorem d_Bx_firstShortDay_87 : decode b_Bx_firstShortDay 87 = .ok (.iinc 7 1, 3) := by decide +kernel
set_option maxRecDepth 100000 in
theorem d_Bx_firstShortDay_90 : decode b_Bx_firstShortDay 90 = .ok (.goto (-37), 3) := by decide +kernel
set_option maxRecDepth 100000 in
theorem d_Bx_firstShortDay_93 : decode b_Bx_firstShortDay 93 = .ok (.iconst (-1), 1) := by decide +kernel
set_option maxRecDepth 100000 in
theorem d_Bx_firstShortDay_94 : decode b_Bx_firstShortDay 94 = .ok (.ireturn, 1) := by decide +kernel
set_option maxRecDepth 100000 in
theorem d_Bx_init_0 : decode b_Bx_init 0 = .ok (.aload_n 0, 1) := by decide +kernel
set_option maxRecDepth 100000 in
theorem d_Bx_init_1 : decode b_Bx_init 1 = .ok (.invokespecial 3, 3) := by decide +kernel
set_option maxRecDepth 100000 in
theorem d_Bx_init_4 : decode b_Bx_init 4 = .ok (.aload_n 0, 1) := by decide +kernel
set_option maxRecDepth 100000 in
theorem d_Bx_init_5 : decode b_Bx_init 5 = .ok (.sipush 500, 3) := by decide +kernel
set_option maxRecDepth 100000 in
theorem d_Bx_init_8 : decode b_Bx_init 8 = .ok (.newarray .int, 2) := by decide +kernel
set_option maxRecDepth 100000 in
theorem d_Bx_init_10 : decode b_Bx_init 10 = .ok (.putfield 9, 3) := by decide +kernel
set_option maxRecDepth 100000 in
theorem d_Bx_init_13 : decode b_Bx_init 13 = .ok (.aload_n 0, 1) := by decide +kernel
set_option maxRecDepth 100000 in
theorem d_Bx_init_14 : decode b_Bx_init 14 = .ok (.bipush 30, 2) := by decide +kernel
set_option maxRecDepth 100000 in
theorem d_Bx_init_16 : decode b_Bx_init 16 = .ok (.anewarray 15, 3) := by decide +kernel
set_option maxRecDepth 100000 in
theorem d_Bx_init_19 : decode b_Bx_init 19 = .ok (.putfield 17, 3) := by decide +kernel
set_option maxRecDepth 100000 in
theorem d_Bx_init_22 : decode b_Bx_init 22 = .ok (.return_, 1) := by decide +kernel
set_option maxRecDepth 100000 in
theorem d_Bx_owedOn_0 : decode b_Bx_owedOn 0 = .ok (.iconst 0, 1) := by decide +kernel
set_option maxRecDepth 100000 in
theorem d_Bx_owedOn_1 : decode b_Bx_owedOn 1 = .ok (.istore_n 2, 1) := by decide +kernel
set_option maxRecDepth 100000 in
theorem d_Bx_owedOn_2 : decode b_Bx_owedOn 2 = .ok (.iconst 0, 1) := by decide +kernel
set_option maxRecDepth 100000 in
theorem d_Bx_owedOn_3 : decode b_Bx_owedOn 3 = .ok (.istore_n 3, 1) := by decide +kernel
set_option maxRecDepth 100000 in
theorem d_Bx_owedOn_4 : decode b_Bx_owedOn 4 = .ok (.iload_n 3, 1) := by decide +kernel
set_option maxRecDepth 100000 in
theorem d_Bx_owedOn_5 : decode b_Bx_owedOn 5 = .ok (.aload_n 0, 1) := by decide +kernel
set_option maxRecDepth 100000 in
theorem d_Bx_owedOn_6 : decode b_Bx_owedOn 6 = .ok (.getfield 29, 3) := by decide +kernel
set_option maxRecDepth 100000 in
theorem d_Bx_owedOn_9 : decode b_Bx_owedOn 9 = .ok (.if_icmp .ge 38, 3) := by decide +kernel
set_option maxRecDepth 100000 in
theorem d_Bx_owedOn_47 : decode b_Bx_owedOn 47 = .ok (.iload_n 2, 1) := by decide +kernel
set_option maxRecDepth 100000 in
theorem d_Bx_owedOn_48 : decode b_Bx_owedOn 48 = .ok (.ireturn, 1) := by decide +kernel
set_option maxRecDepth 100000 in
theorem d_Bx_payPensions_0 : decode b_Bx_payPensions 0 = .ok (.iload_n 1, 1) := by decide +kernel
set_option maxRecDepth 100000 in
theorem d_Bx_payPensions_1 : decode b_Bx_payPensions 1 = .ok (.bipush 100, 2) := by decide +kernel
set_option maxRecDepth 100000 in
theorem d_Bx_payPensions_3 : decode b_Bx_payPensions 3 = .ok (.irem, 1) := by decide +kernel
set_option maxRecDepth 100000 in
theorem d_Bx_payPensions_4 : decode b_Bx_payPensions 4 = .ok (.ifCond .eq 4, 3) := by decide +kernel
set_option maxRecDepth 100000 in
theorem d_Bx_payPensions_7 : decode b_Bx_payPensions 7 = .ok (.return_, 1) := by decide +kernel
set_option maxRecDepth 100000 in
theorem d_Bx_pensionerAt_0 : decode b_Bx_pensionerAt 0 = .ok (.iload_n 1, 1) := by decide +kernel
set_option maxRecDepth 100000 in
theorem d_Bx_pensionerAt_1 : decode b_Bx_pensionerAt 1 = .ok (.ifCond .lt 20, 3) := by decide +kernel
set_option maxRecDepth 100000 in
theorem d_Bx_pensionerAt_4 : decode b_Bx_pensionerAt 4 = .ok (.iload_n 1, 1) := by decide +kernel
set_option maxRecDepth 100000 in
theorem d_Bx_pensionerAt_5 : decode b_Bx_pensionerAt 5 = .ok (.aload_n 0, 1) := by decide +kernel
set_option maxRecDepth 100000 in
theorem d_Bx_pensionerAt_6 : decode b_Bx_pensionerAt 6 = .ok (.getfield 29, 3) := by decide +kernel
set_option maxRecDepth 100000 in
theorem d_Bx_pensionerAt_9 : decode b_Bx_pensionerAt 9 = .ok (.if_icmp .ge 12, 3) := by decide +kernel
set_option maxRecDepth 100000 in
theorem d_Bx_pensionerAt_21 : decode b_Bx_pensionerAt 21 = .ok (.aconst_null, 1) := by decide +kernel
set_option maxRecDepth 100000 in
theorem d_Bx_pensionerAt_22 : decode b_Bx_pensionerAt 22 = .ok (.areturn, 1) := by decide +kernel
set_option maxRecDepth 100000 in
theorem d_Bx_take_0 : decode b_Bx_take 0 = .ok (.aload_n 0, 1) := by decide +kernel
set_option maxRecDepth 100000 in
theorem d_Bx_take_1 : decode b_Bx_take 1 = .ok (.getfield 17, 3) := by decide +kernel
set_option maxRecDepth 100000 in
theorem d_Bx_take_4 : decode b_Bx_take 4 = .ok (.aload_n 0, 1) := by decide +kernel
set_option maxRecDepth 100000 in
theorem d_Bx_take_5 : decode b_Bx_take 5 = .ok (.getfield 29, 3) := by decide +kernel
set_option maxRecDepth 100000 in
theorem d_Bx_take_8 : decode b_Bx_take 8 = .ok (.new 15, 3) := by decide +kernel
set_option maxRecDepth 100000 in
theorem d_Bx_take_11 : decode b_Bx_take 11 = .ok (.dup, 1) := by decide +kernel
set_option maxRecDepth 100000 in
theorem d_Bx_take_12 : decode b_Bx_take 12 = .ok (.iload_n 1, 1) := by decide +kernel
set_option maxRecDepth 100000 in
theorem d_Bx_take_13 : decode b_Bx_take 13 = .ok (.iload_n 2, 1) := by decide +kernel
set_option maxRecDepth 100000 in
theorem d_Bx_take_14 : decode b_Bx_take 14 = .ok (.invokespecial 32, 3) := by decide +kernel
set_option maxRecDepth 100000 in
theorem d_Bx_take_17 : decode b_Bx_take 17 = .ok (.aastore, 1) := by decide +kernel
set_option maxRecDepth 100000 in
theorem d_Bx_take_18 : decode b_Bx_take 18 = .ok (.aload_n 0, 1) := by decide +kernel
set_option maxRecDepth 100000 in
theorem d_Bx_take_19 : decode b_Bx_take 19 = .ok (.dup, 1) := by decide +kernel
set_option maxRecDepth 100000 in
theorem d_Bx_take_20 : decode b_Bx_take 20 = .ok (.getfield 29, 3) := by decide +kernel
set_option maxRecDepth 100000 in
theorem d_Bx_take_23 : decode b_Bx_take 23 = .ok (.iconst 1, 1) := by decide +kernel
set_option maxRecDepth 100000 in
theorem d_Bx_take_24 : decode b_Bx_take 24 = .ok (.iadd, 1) := by decide +kernel
set_option maxRecDepth 100000 in
theorem d_Bx_take_25 : decode b_Bx_take 25 = .ok (.putfield 29, 3) := by decide +kernel
set_option maxRecDepth 100000 in
theorem d_Bx_take_28 : decode b_Bx_take 28 = .ok (.aload_n 0, 1) := by decide +kernel
set_option maxRecDepth 100000 in
theorem d_Bx_take_29 : decode b_Bx_take 29 = .ok (.getfield 29, 3) := by decide +kernel
set_option maxRecDepth 100000 in
theorem d_Bx_take_32 : decode b_Bx_take 32 = .ok (.iconst 1, 1) := by decide +kernel
set_option maxRecDepth 100000 in
theorem d_Bx_take_33 : decode b_Bx_take 33 = .ok (.isub, 1) := by decide +kernel
set_option maxRecDepth 100000 in
theorem d_Bx_take_34 : decode b_Bx_take 34 = .ok (.ireturn, 1) := by decide +kernel
set_option maxRecDepth 100000 in
theorem d_Md_absent_0 : decode b_Md_absent 0 = .ok (.iload_n 1, 1) := by decide +kernel
set_option maxRecDepth 100000 in
theorem d_Md_absent_1 : decode b_Md_absent 1 = .ok (.invokestatic 186, 3) := by decide +kernel
set_option maxRecDepth 100000 in
theorem d_Md_absent_4 : decode b_Md_absent 4 = .ok (.ifCond .eq 20, 3) := by decide +kernel
set_option maxRecDepth 100000 in
theorem d_Md_absent_7 : decode b_Md_absent 7 = .ok (.iload_n 2, 1) := by decide +kernel
set_option maxRecDepth 100000 in
theorem d_Md_absent_8 : decode b_Md_absent 8 = .ok (.ifCond .lt 16, 3) := by decide +kernel
set_option maxRecDepth 100000 in
theorem d_Md_absent_11 : decode b_Md_absent 11 = .ok (.iload_n 2, 1) := by decide +kernel
set_option maxRecDepth 100000 in
theorem d_Md_absent_12 : decode b_Md_absent 12 = .ok (.iload_n 3, 1) := by decide +kernel
set_option maxRecDepth 100000 in
theorem d_Md_absent_13 : decode b_Md_absent 13 = .ok (.if_icmp .gt 11, 3) := by decide +kernel
set_option maxRecDepth 100000 in
theorem d_Md_absent_16 : decode b_Md_absent 16 = .ok (.iload_n 3, 1) := by decide +kernel
set_option maxRecDepth 100000 in
theorem d_Md_absent_17 : decode b_Md_absent 17 = .ok (.aload_n 0, 1) := by decide +kernel
set_option maxRecDepth 100000 in
theorem d_Md_absent_18 : decode b_Md_absent 18 = .ok (.invokevirtual 45, 3) := by decide +kernel
set_option maxRecDepth 100000 in
theorem d_Md_absent_21 : decode b_Md_absent 21 = .ok (.if_icmp .le 5, 3) := by decide +kernel
set_option maxRecDepth 100000 in
theorem d_Md_absent_24 : decode b_Md_absent 24 = .ok (.iconst (-1), 1) := by decide +kernel
set_option maxRecDepth 100000 in
theorem d_Md_absent_25 : decode b_Md_absent 25 = .ok (.ireturn, 1) := by decide +kernel
set_option maxRecDepth 100000 in
theorem d_Md_absent_26 : decode b_Md_absent 26 = .ok (.aload_n 0, 1) := by decide +kernel
set_option maxRecDepth 100000 in
theorem d_Md_absent_27 : decode b_Md_absent 27 = .ok (.getfield 58, 3) := by decide +kernel
set_option maxRecDepth 100000 in
theorem d_Md_absent_30 : decode b_Md_absent 30 = .ok (.iload_n 1, 1) := by decide +kernel
set_option maxRecDepth 100000 in
theorem d_Md_absent_31 : decode b_Md_absent 31 = .ok (.iaload, 1) := by decide +kernel
set_option maxRecDepth 100000 in
theorem d_Md_absent_32 : decode b_Md_absent 32 = .ok (.iconst 1, 1) := by decide +kernel
set_option maxRecDepth 100000 in
theorem d_Md_absent_33 : decode b_Md_absent 33 = .ok (.if_icmp .eq 6, 3) := by decide +kernel
set_option maxRecDepth 100000 in
theorem d_Md_absent_36 : decode b_Md_absent 36 = .ok (.bipush (-2), 2) := by decide +kernel
set_option maxRecDepth 100000 in
theorem d_Md_absent_38 : decode b_Md_absent 38 = .ok (.ireturn, 1) := by decide +kernel
set_option maxRecDepth 100000 in
theorem d_Md_advance_0 : decode b_Md_advance 0 = .ok (.aload_n 0, 1) := by decide +kernel
set_option maxRecDepth 100000 in
theorem d_Md_advance_1 : decode b_Md_advance 1 = .ok (.getfield 218, 3) := by decide +kernel
set_option maxRecDepth 100000 in
theorem d_Md_advance_4 : decode b_Md_advance 4 = .ok (.aload_n 0, 1) := by decide +kernel
set_option maxRecDepth 100000 in
theorem d_Md_advance_5 : decode b_Md_advance 5 = .ok (.getfield 212, 3) := by decide +kernel
set_option maxRecDepth 100000 in
theorem d_Md_advance_8 : decode b_Md_advance 8 = .ok (.if_icmp .ge 30, 3) := by decide +kernel
set_option maxRecDepth 100000 in
theorem d_Md_advance_38 : decode b_Md_advance 38 = .ok (.aload_n 0, 1) := by decide +kernel
set_option maxRecDepth 100000 in
theorem d_Md_advance_39 : decode b_Md_advance 39 = .ok (.aload_n 0, 1) := by decide +kernel
set_option maxRecDepth 100000 in
theorem d_Md_advance_40 : decode b_Md_advance 40 = .ok (.getfield 218, 3) := by decide +kernel
set_option maxRecDepth 100000 in
theorem d_Md_advance_43 : decode b_Md_advance 43 = .ok (.putfield 221, 3) := by decide +kernel
set_option maxRecDepth 100000 in
theorem d_Md_advance_46 : decode b_Md_advance 46 = .ok (.aload_n 0, 1) := by decide +kernel
set_option maxRecDepth 100000 in
theorem d_Md_advance_47 : decode b_Md_advance 47 = .ok (.getfield 218, 3) := by decide +kernel
set_option maxRecDepth 100000 in
theorem d_Md_advance_50 : decode b_Md_advance 50 = .ok (.aload_n 0, 1) := by decide +kernel
set_option maxRecDepth 100000 in
theorem d_Md_advance_51 : decode b_Md_advance 51 = .ok (.getfield 212, 3) := by decide +kernel
set_option maxRecDepth 100000 in
theorem d_Md_advance_54 : decode b_Md_advance 54 = .ok (.if_icmp .ne 9, 3) := by decide +kernel
set_option maxRecDepth 100000 in
theorem d_Md_advance_57 : decode b_Md_advance 57 = .ok (.aload_n 0, 1) := by decide +kernel
set_option maxRecDepth 100000 in
theorem d_Md_advance_58 : decode b_Md_advance 58 = .ok (.iconst 0, 1) := by decide +kernel
set_option maxRecDepth 100000 in
theorem d_Md_advance_59 : decode b_Md_advance 59 = .ok (.putfield 224, 3) := by decide +kernel
set_option maxRecDepth 100000 in
theorem d_Md_advance_62 : decode b_Md_advance 62 = .ok (.return_, 1) := by decide +kernel
set_option maxRecDepth 100000 in
theorem d_Md_arrive_0 : decode b_Md_arrive 0 = .ok (.iconst 0, 1) := by decide +kernel
set_option maxRecDepth 100000 in
theorem d_Md_arrive_1 : decode b_Md_arrive 1 = .ok (.istore_n 1, 1) := by decide +kernel
set_option maxRecDepth 100000 in
theorem d_Md_arrive_2 : decode b_Md_arrive 2 = .ok (.iload_n 1, 1) := by decide +kernel
set_option maxRecDepth 100000 in
theorem d_Md_arrive_3 : decode b_Md_arrive 3 = .ok (.aload_n 0, 1) := by decide +kernel
set_option maxRecDepth 100000 in
theorem d_Md_arrive_4 : decode b_Md_arrive 4 = .ok (.getfield 206, 3) := by decide +kernel
set_option maxRecDepth 100000 in
theorem d_Md_arrive_7 : decode b_Md_arrive 7 = .ok (.if_icmp .ge 55, 3) := by decide +kernel
set_option maxRecDepth 100000 in
theorem d_Md_arrive_62 : decode b_Md_arrive 62 = .ok (.return_, 1) := by decide +kernel
set_option maxRecDepth 100000 in
theorem d_Md_bind_0 : decode b_Md_bind 0 = .ok (.iload_n 1, 1) := by decide +kernel
set_option maxRecDepth 100000 in
theorem d_Md_bind_1 : decode b_Md_bind 1 = .ok (.invokestatic 186, 3) := by decide +kernel
set_option maxRecDepth 100000 in
theorem d_Md_bind_4 : decode b_Md_bind 4 = .ok (.ifCond .eq 10, 3) := by decide +kernel
set_option maxRecDepth 100000 in
theorem d_Md_bind_7 : decode b_Md_bind 7 = .ok (.iload_n 2, 1) := by decide +kernel
set_option maxRecDepth 100000 in
theorem d_Md_bind_8 : decode b_Md_bind 8 = .ok (.invokestatic 186, 3) := by decide +kernel
set_option maxRecDepth 100000 in
theorem d_Md_bind_11 : decode b_Md_bind 11 = .ok (.ifCond .ne 5, 3) := by decide +kernel
set_option maxRecDepth 100000 in
theorem d_Md_bind_14 : decode b_Md_bind 14 = .ok (.iconst (-1), 1) := by decide +kernel
set_option maxRecDepth 100000 in
theorem d_Md_bind_15 : decode b_Md_bind 15 = .ok (.ireturn, 1) := by decide +kernel
set_option maxRecDepth 100000 in
theorem d_Md_bind_16 : decode b_Md_bind 16 = .ok (.aload_n 0, 1) := by decide +kernel
set_option maxRecDepth 100000 in
theorem d_Md_bind_17 : decode b_Md_bind 17 = .ok (.getfield 58, 3) := by decide +kernel
set_option maxRecDepth 100000 in
theorem d_Md_bind_20 : decode b_Md_bind 20 = .ok (.iload_n 1, 1) := by decide +kernel
set_option maxRecDepth 100000 in
theorem d_Md_bind_21 : decode b_Md_bind 21 = .ok (.iaload, 1) := by decide +kernel
set_option maxRecDepth 100000 in
theorem d_Md_bind_22 : decode b_Md_bind 22 = .ok (.ifCond .ne 13, 3) := by decide +kernel
set_option maxRecDepth 100000 in
theorem d_Md_bind_25 : decode b_Md_bind 25 = .ok (.aload_n 0, 1) := by decide +kernel
set_option maxRecDepth 100000 in
theorem d_Md_bind_26 : decode b_Md_bind 26 = .ok (.getfield 58, 3) := by decide +kernel
set_option maxRecDepth 100000 in
theorem d_Md_bind_29 : decode b_Md_bind 29 = .ok (.iload_n 2, 1) := by decide +kernel
set_option maxRecDepth 100000 in
theorem d_Md_bind_30 : decode b_Md_bind 30 = .ok (.iaload, 1) := by decide +kernel
set_option maxRecDepth 100000 in
theorem d_Md_bind_31 : decode b_Md_bind 31 = .ok (.iconst 2, 1) := by decide +kernel
set_option maxRecDepth 100000 in
theorem d_Md_bind_32 : decode b_Md_bind 32 = .ok (.if_icmp .eq 6, 3) := by decide +kernel
set_option maxRecDepth 100000 in
theorem d_Md_bind_35 : decode b_Md_bind 35 = .ok (.bipush (-2), 2) := by decide +kernel
set_option maxRecDepth 100000 in
theorem d_Md_bind_37 : decode b_Md_bind 37 = .ok (.ireturn, 1) := by decide +kernel
set_option maxRecDepth 100000 in
theorem d_Md_boat_0 : decode b_Md_boat 0 = .ok (.iload_n 1, 1) := by decide +kernel
set_option maxRecDepth 100000 in
theorem d_Md_boat_1 : decode b_Md_boat 1 = .ok (.iconst 1, 1) := by decide +kernel
set_option maxRecDepth 100000 in
theorem d_Md_boat_2 : decode b_Md_boat 2 = .ok (.iconst 2, 1) := by decide +kernel
set_option maxRecDepth 100000 in
theorem d_Md_boat_3 : decode b_Md_boat 3 = .ok (.invokestatic 10, 3) := by decide +kernel
set_option maxRecDepth 100000 in
theorem d_Md_boat_6 : decode b_Md_boat 6 = .ok (.ifCond .eq 11, 3) := by decide +kernel
set_option maxRecDepth 100000 in
theorem d_Md_boat_9 : decode b_Md_boat 9 = .ok (.aload_n 0, 1) := by decide +kernel
set_option maxRecDepth 100000 in
theorem d_Md_boat_10 : decode b_Md_boat 10 = .ok (.iload_n 2, 1) := by decide +kernel
set_option maxRecDepth 100000 in
theorem d_Md_boat_11 : decode b_Md_boat 11 = .ok (.invokevirtual 199, 3) := by decide +kernel
set_option maxRecDepth 100000 in
theorem d_Md_boat_14 : decode b_Md_boat 14 = .ok (.ifCond .ne 5, 3) := by decide +kernel
set_option maxRecDepth 100000 in
theorem d_Md_boat_17 : decode b_Md_boat 17 = .ok (.iconst (-1), 1) := by decide +kernel
set_option maxRecDepth 100000 in
theorem d_Md_boat_18 : decode b_Md_boat 18 = .ok (.ireturn, 1) := by decide +kernel
set_option maxRecDepth 100000 in
theorem d_Md_bridge_0 : decode b_Md_bridge 0 = .ok (.iload_n 1, 1) := by decide +kernel
set_option maxRecDepth 100000 in
theorem d_Md_bridge_1 : decode b_Md_bridge 1 = .ok (.iconst (-1), 1) := by decide +kernel
set_option maxRecDepth 100000 in
theorem d_Md_bridge_2 : decode b_Md_bridge 2 = .ok (.if_icmp .eq 19, 3) := by decide +kernel
set_option maxRecDepth 100000 in
theorem d_Md_bridge_5 : decode b_Md_bridge 5 = .ok (.iload_n 1, 1) := by decide +kernel
set_option maxRecDepth 100000 in
theorem d_Md_bridge_6 : decode b_Md_bridge 6 = .ok (.iconst 0, 1) := by decide +kernel
set_option maxRecDepth 100000 in
theorem d_Md_bridge_7 : decode b_Md_bridge 7 = .ok (.aload_n 0, 1) := by decide +kernel
set_option maxRecDepth 100000 in
theorem d_Md_bridge_8 : decode b_Md_bridge 8 = .ok (.getfield 14, 3) := by decide +kernel
set_option maxRecDepth 100000 in
theorem d_Md_bridge_11 : decode b_Md_bridge 11 = .ok (.iconst 2, 1) := by decide +kernel
set_option maxRecDepth 100000 in
theorem d_Md_bridge_12 : decode b_Md_bridge 12 = .ok (.isub, 1) := by decide +kernel
set_option maxRecDepth 100000 in
theorem d_Md_bridge_13 : decode b_Md_bridge 13 = .ok (.invokestatic 10, 3) := by decide +kernel
set_option maxRecDepth 100000 in
theorem d_Md_bridge_16 : decode b_Md_bridge 16 = .ok (.ifCond .ne 5, 3) := by decide +kernel
set_option maxRecDepth 100000 in
theorem d_Md_bridge_19 : decode b_Md_bridge 19 = .ok (.iconst (-1), 1) := by decide +kernel
set_option maxRecDepth 100000 in
theorem d_Md_bridge_20 : decode b_Md_bridge 20 = .ok (.ireturn, 1) := by decide +kernel
set_option maxRecDepth 100000 in
theorem d_Md_bridge_21 : decode b_Md_bridge 21 = .ok (.aload_n 0, 1) := by decide +kernel
set_option maxRecDepth 100000 in
theorem d_Md_bridge_22 : decode b_Md_bridge 22 = .ok (.iload_n 1, 1) := by decide +kernel
set_option maxRecDepth 100000 in
theorem d_Md_bridge_23 : decode b_Md_bridge 23 = .ok (.putfield 35, 3) := by decide +kernel
set_option maxRecDepth 100000 in
theorem d_Md_bridge_26 : decode b_Md_bridge 26 = .ok (.iconst 1, 1) := by decide +kernel
set_option maxRecDepth 100000 in
theorem d_Md_bridge_27 : decode b_Md_bridge 27 = .ok (.ireturn, 1) := by decide +kernel
set_option maxRecDepth 100000 in
theorem d_Md_coins_0 : decode b_Md_coins 0 = .ok (.lconst 0, 1) := by decide +kernel
set_option maxRecDepth 100000 in
theorem d_Md_coins_1 : decode b_Md_coins 1 = .ok (.lstore_n 2, 1) := by decide +kernel
set_option maxRecDepth 100000 in
theorem d_Md_coins_2 : decode b_Md_coins 2 = .ok (.iload_n 1, 1) := by decide +kernel
set_option maxRecDepth 100000 in
theorem d_Md_coins_3 : decode b_Md_coins 3 = .ok (.tableswitch 113 0 4 #[33, 39, 45, 75, 107], 33) := by decide +kernel
set_option maxRecDepth 100000 in
theorem d_Md_coins_36 : decode b_Md_coins 36 = .ok (.aload_n 0, 1) := by decide +kernel
set_option maxRecDepth 100000 in
theorem d_Md_coins_37 : decode b_Md_coins 37 = .ok (.getfield 316, 3) := by decide +kernel
set_option maxRecDepth 100000 in
theorem d_Md_coins_40 : decode b_Md_coins 40 = .ok (.l2i, 1) := by decide +kernel
set_option maxRecDepth 100000 in
theorem d_Md_coins_41 : decode b_Md_coins 41 = .ok (.ireturn, 1) := by decide +kernel
set_option maxRecDepth 100000 in
theorem d_Md_coins_42 : decode b_Md_coins 42 = .ok (.aload_n 0, 1) := by decide +kernel
set_option maxRecDepth 100000 in
theorem d_Md_coins_43 : decode b_Md_coins 43 = .ok (.getfield 320, 3) := by decide +kernel
set_option maxRecDepth 100000 in
theorem d_Md_coins_46 : decode b_Md_coins 46 = .ok (.l2i, 1) := by decide +kernel
set_option maxRecDepth 100000 in
theorem d_Md_coins_47 : decode b_Md_coins 47 = .ok (.ireturn, 1) := by decide +kernel
set_option maxRecDepth 100000 in
theorem d_Md_coins_48 : decode b_Md_coins 48 = .ok (.iconst 0, 1) := by decide +kernel
set_option maxRecDepth 100000 in
theorem d_Md_coins_49 : decode b_Md_coins 49 = .ok (.istore 4, 2) := by decide +kernel
set_option maxRecDepth 100000 in
theorem d_Md_coins_51 : decode b_Md_coins 51 = .ok (.iload 4, 2) := by decide +kernel
set_option maxRecDepth 100000 in
theorem d_Md_coins_53 : decode b_Md_coins 53 = .ok (.bipush 40, 2) := by decide +kernel
set_option maxRecDepth 100000 in
theorem d_Md_coins_55 : decode b_Md_coins 55 = .ok (.if_icmp .ge 20, 3) := by decide +kernel
set_option maxRecDepth 100000 in
theorem d_Md_coins_58 : decode b_Md_coins 58 = .ok (.lload_n 2, 1) := by decide +kernel
set_option maxRecDepth 100000 in
theorem d_Md_coins_59 : decode b_Md_coins 59 = .ok (.aload_n 0, 1) := by decide +kernel
set_option maxRecDepth 100000 in
theorem d_Md_coins_60 : decode b_Md_coins 60 = .ok (.getfield 76, 3) := by decide +kernel
set_option maxRecDepth 100000 in
theorem d_Md_coins_63 : decode b_Md_coins 63 = .ok (.iload 4, 2) := by decide +kernel
set_option maxRecDepth 100000 in
theorem d_Md_coins_65 : decode b_Md_coins 65 = .ok (.iaload, 1) := by decide +kernel
set_option maxRecDepth 100000 in
theorem d_Md_coins_66 : decode b_Md_coins 66 = .ok (.i2l, 1) := by decide +kernel
set_option maxRecDepth 100000 in
theorem d_Md_coins_67 : decode b_Md_coins 67 = .ok (.ladd, 1) := by decide +kernel
set_option maxRecDepth 100000 in
theorem d_Md_coins_68 : decode b_Md_coins 68 = .ok (.lstore_n 2, 1) := by decide +kernel
set_option maxRecDepth 100000 in
theorem d_Md_coins_69 : decode b_Md_coins 69 = .ok (.iinc 4 1, 3) := by decide +kernel
set_option maxRecDepth 100000 in
theorem d_Md_coins_72 : decode b_Md_coins 72 = .ok (.goto (-21), 3) := by decide +kernel
set_option maxRecDepth 100000 in
theorem d_Md_coins_75 : decode b_Md_coins 75 = .ok (.lload_n 2, 1) := by decide +kernel
set_option maxRecDepth 100000 in
theorem d_Md_coins_76 : decode b_Md_coins 76 = .ok (.l2i, 1) := by decide +kernel
set_option maxRecDepth 100000 in
theorem d_Md_coins_77 : decode b_Md_coins 77 = .ok (.ireturn, 1) := by decide +kernel
set_option maxRecDepth 100000 in
theorem d_Md_coins_78 : decode b_Md_coins 78 = .ok (.iconst 0, 1) := by decide +kernel
set_option maxRecDepth 100000 in
theorem d_Md_coins_79 : decode b_Md_coins 79 = .ok (.istore 4, 2) := by decide +kernel
set_option maxRecDepth 100000 in
theorem d_Md_coins_81 : decode b_Md_coins 81 = .ok (.iload 4, 2) := by decide +kernel
set_option maxRecDepth 100000 in
theorem d_Md_coins_83 : decode b_Md_coins 83 = .ok (.aload_n 0, 1) := by decide +kernel
set_option maxRecDepth 100000 in
theorem d_Md_coins_84 : decode b_Md_coins 84 = .ok (.getfield 313, 3) := by decide +kernel
set_option maxRecDepth 100000 in
theorem d_Md_coins_87 : decode b_Md_coins 87 = .ok (.if_icmp .ge 20, 3) := by decide +kernel
set_option maxRecDepth 100000 in
theorem d_Md_coins_107 : decode b_Md_coins 107 = .ok (.lload_n 2, 1) := by decide +kernel
set_option maxRecDepth 100000 in
theorem d_Md_coins_108 : decode b_Md_coins 108 = .ok (.l2i, 1) := by decide +kernel
set_option maxRecDepth 100000 in
theorem d_Md_coins_109 : decode b_Md_coins 109 = .ok (.ireturn, 1) := by decide +kernel
set_option maxRecDepth 100000 in
theorem d_Md_coins_110 : decode b_Md_coins 110 = .ok (.aload_n 0, 1) := by decide +kernel
set_option maxRecDepth 100000 in
theorem d_Md_coins_111 : decode b_Md_coins 111 = .ok (.getfield 326, 3) := by decide +kernel
set_option maxRecDepth 100000 in
theorem d_Md_coins_114 : decode b_Md_coins 114 = .ok (.l2i, 1) := by decide +kernel
set_option maxRecDepth 100000 in
theorem d_Md_coins_115 : decode b_Md_coins 115 = .ok (.ireturn, 1) := by decide +kernel
set_option maxRecDepth 100000 in
theorem d_Md_coins_116 : decode b_Md_coins 116 = .ok (.iconst (-1), 1) := by decide +kernel
set_option maxRecDepth 100000 in
theorem d_Md_coins_117 : decode b_Md_coins 117 = .ok (.ireturn, 1) := by decide +kernel
set_option maxRecDepth 100000 in
theorem d_Md_count_0 : decode b_Md_count 0 = .ok (.iload_n 1, 1) := by decide +kernel
set_option maxRecDepth 100000 in
theorem d_Md_count_1 : decode b_Md_count 1 = .ok (.tableswitch 108 0 9 #[55, 60, 65, 70, 75, 80, 86, 92, 98, 103], 55) := by decide +kernel
set_option maxRecDepth 100000 in
theorem d_Md_count_56 : decode b_Md_count 56 = .ok (.aload_n 0, 1) := by decide +kernel
set_option maxRecDepth 100000 in
theorem d_Md_count_57 : decode b_Md_count 57 = .ok (.getfield 14, 3) := by decide +kernel
set_option maxRecDepth 100000 in
theorem d_Md_count_60 : decode b_Md_count 60 = .ok (.ireturn, 1) := by decide +kernel
set_option maxRecDepth 100000 in
theorem d_Md_count_61 : decode b_Md_count 61 = .ok (.aload_n 0, 1) := by decide +kernel
set_option maxRecDepth 100000 in
theorem d_Md_count_62 : decode b_Md_count 62 = .ok (.getfield 206, 3) := by decide +kernel
set_option maxRecDepth 100000 in
theorem d_Md_count_65 : decode b_Md_count 65 = .ok (.ireturn, 1) := by decide +kernel
set_option maxRecDepth 100000 in
theorem d_Md_count_66 : decode b_Md_count 66 = .ok (.aload_n 0, 1) := by decide +kernel
set_option maxRecDepth 100000 in
theorem d_Md_count_67 : decode b_Md_count 67 = .ok (.getfield 313, 3) := by decide +kernel
set_option maxRecDepth 100000 in
theorem d_Md_count_70 : decode b_Md_count 70 = .ok (.ireturn, 1) := by decide +kernel
set_option maxRecDepth 100000 in
theorem d_Md_count_71 : decode b_Md_count 71 = .ok (.aload_n 0, 1) := by decide +kernel
set_option maxRecDepth 100000 in
theorem d_Md_count_72 : decode b_Md_count 72 = .ok (.getfield 275, 3) := by decide +kernel
set_option maxRecDepth 100000 in
theorem d_Md_count_75 : decode b_Md_count 75 = .ok (.ireturn, 1) := by decide +kernel
set_option maxRecDepth 100000 in
theorem d_Md_count_76 : decode b_Md_count 76 = .ok (.aload_n 0, 1) := by decide +kernel
set_option maxRecDepth 100000 in
theorem d_Md_count_77 : decode b_Md_count 77 = .ok (.getfield 7, 3) := by decide +kernel
set_option maxRecDepth 100000 in
theorem d_Md_count_80 : decode b_Md_count 80 = .ok (.ireturn, 1) := by decide +kernel
set_option maxRecDepth 100000 in
theorem d_Md_count_81 : decode b_Md_count 81 = .ok (.aload_n 0, 1) := by decide +kernel
set_option maxRecDepth 100000 in
theorem d_Md_count_82 : decode b_Md_count 82 = .ok (.iconst 2, 1) := by decide +kernel
set_option maxRecDepth 100000 in
theorem d_Md_count_83 : decode b_Md_count 83 = .ok (.invokevirtual 348, 3) := by decide +kernel
set_option maxRecDepth 100000 in
theorem d_Md_count_86 : decode b_Md_count 86 = .ok (.ireturn, 1) := by decide +kernel
set_option maxRecDepth 100000 in
theorem d_Md_count_87 : decode b_Md_count 87 = .ok (.aload_n 0, 1) := by decide +kernel
set_option maxRecDepth 100000 in
theorem d_Md_count_88 : decode b_Md_count 88 = .ok (.iconst 1, 1) := by decide +kernel
set_option maxRecDepth 100000 in
theorem d_Md_count_89 : decode b_Md_count 89 = .ok (.invokevirtual 348, 3) := by decide +kernel
set_option maxRecDepth 100000 in
theorem d_Md_count_92 : decode b_Md_count 92 = .ok (.ireturn, 1) := by decide +kernel
set_option maxRecDepth 100000 in
theorem d_Md_count_93 : decode b_Md_count 93 = .ok (.aload_n 0, 1) := by decide +kernel
set_option maxRecDepth 100000 in
theorem d_Md_count_94 : decode b_Md_count 94 = .ok (.iconst 3, 1) := by decide +kernel
set_option maxRecDepth 100000 in
theorem d_Md_count_95 : decode b_Md_count 95 = .ok (.invokevirtual 348, 3) := by decide +kernel
set_option maxRecDepth 100000 in
theorem d_Md_count_98 : decode b_Md_count 98 = .ok (.ireturn, 1) := by decide +kernel
set_option maxRecDepth 100000 in
theorem d_Md_count_99 : decode b_Md_count 99 = .ok (.aload_n 0, 1) := by decide +kernel
set_option maxRecDepth 100000 in
theorem d_Md_count_100 : decode b_Md_count 100 = .ok (.getfield 323, 3) := by decide +kernel
set_option maxRecDepth 100000 in
theorem d_Md_count_103 : decode b_Md_count 103 = .ok (.ireturn, 1) := by decide +kernel
set_option maxRecDepth 100000 in
theorem d_Md_count_104 : decode b_Md_count 104 = .ok (.aload_n 0, 1) := by decide +kernel
set_option maxRecDepth 100000 in
theorem d_Md_count_105 : decode b_Md_count 105 = .ok (.getfield 212, 3) := by decide +kernel
set_option maxRecDepth 100000 in
theorem d_Md_count_108 : decode b_Md_count 108 = .ok (.ireturn, 1) := by decide +kernel
set_option maxRecDepth 100000 in
theorem d_Md_count_109 : decode b_Md_count 109 = .ok (.iconst (-1), 1) := by decide +kernel
set_option maxRecDepth 100000 in
theorem d_Md_count_110 : decode b_Md_count 110 = .ok (.ireturn, 1) := by decide +kernel
set_option maxRecDepth 100000 in
theorem d_Md_craft_0 : decode b_Md_craft 0 = .ok (.aload_n 0, 1) := by decide +kernel
set_option maxRecDepth 100000 in
theorem d_Md_craft_1 : decode b_Md_craft 1 = .ok (.iload_n 1, 1) := by decide +kernel
set_option maxRecDepth 100000 in
theorem d_Md_craft_2 : decode b_Md_craft 2 = .ok (.invokevirtual 209, 3) := by decide +kernel
set_option maxRecDepth 100000 in
theorem d_Md_craft_5 : decode b_Md_craft 5 = .ok (.ifCond .ne 5, 3) := by decide +kernel
set_option maxRecDepth 100000 in
theorem d_Md_craft_8 : decode b_Md_craft 8 = .ok (.iconst (-1), 1) := by decide +kernel
set_option maxRecDepth 100000 in
theorem d_Md_craft_9 : decode b_Md_craft 9 = .ok (.ireturn, 1) := by decide +kernel
set_option maxRecDepth 100000 in
theorem d_Md_due_0 : decode b_Md_due 0 = .ok (.iload_n 1, 1) := by decide +kernel
set_option maxRecDepth 100000 in
theorem d_Md_due_1 : decode b_Md_due 1 = .ok (.iconst 0, 1) := by decide +kernel
set_option maxRecDepth 100000 in
theorem d_Md_due_2 : decode b_Md_due 2 = .ok (.aload_n 0, 1) := by decide +kernel
set_option maxRecDepth 100000 in
theorem d_Md_due_3 : decode b_Md_due 3 = .ok (.getfield 313, 3) := by decide +kernel
set_option maxRecDepth 100000 in
theorem d_Md_due_6 : decode b_Md_due 6 = .ok (.iconst 1, 1) := by decide +kernel
set_option maxRecDepth 100000 in
theorem d_Md_due_7 : decode b_Md_due 7 = .ok (.isub, 1) := by decide +kernel
set_option maxRecDepth 100000 in
theorem d_Md_due_8 : decode b_Md_due 8 = .ok (.invokestatic 10, 3) := by decide +kernel
set_option maxRecDepth 100000 in
theorem d_Md_due_11 : decode b_Md_due 11 = .ok (.ifCond .eq 19, 3) := by decide +kernel
set_option maxRecDepth 100000 in
theorem d_Md_due_30 : decode b_Md_due 30 = .ok (.bipush (-2), 2) := by decide +kernel
set_option maxRecDepth 100000 in
theorem d_Md_due_32 : decode b_Md_due 32 = .ok (.ireturn, 1) := by decide +kernel
set_option maxRecDepth 100000 in
theorem d_Md_end_0 : decode b_Md_end 0 = .ok (.iload_n 1, 1) := by decide +kernel
set_option maxRecDepth 100000 in
theorem d_Md_end_1 : decode b_Md_end 1 = .ok (.iconst 0, 1) := by decide +kernel
set_option maxRecDepth 100000 in
theorem d_Md_end_2 : decode b_Md_end 2 = .ok (.aload_n 0, 1) := by decide +kernel
set_option maxRecDepth 100000 in
theorem d_Md_end_3 : decode b_Md_end 3 = .ok (.getfield 212, 3) := by decide +kernel
set_option maxRecDepth 100000 in
theorem d_Md_end_6 : decode b_Md_end 6 = .ok (.invokestatic 10, 3) := by decide +kernel
set_option maxRecDepth 100000 in
theorem d_Md_end_9 : decode b_Md_end 9 = .ok (.ifCond .ne 5, 3) := by decide +kernel
set_option maxRecDepth 100000 in
theorem d_Md_end_12 : decode b_Md_end 12 = .ok (.iconst (-1), 1) := by decide +kernel
set_option maxRecDepth 100000 in
theorem d_Md_end_13 : decode b_Md_end 13 = .ok (.ireturn, 1) := by decide +kernel
set_option maxRecDepth 100000 in
theorem d_Md_end_14 : decode b_Md_end 14 = .ok (.aload_n 0, 1) := by decide +kernel
set_option maxRecDepth 100000 in
theorem d_Md_end_15 : decode b_Md_end 15 = .ok (.iload_n 1, 1) := by decide +kernel
set_option maxRecDepth 100000 in
theorem d_Md_end_16 : decode b_Md_end 16 = .ok (.putfield 212, 3) := by decide +kernel
set_option maxRecDepth 100000 in
theorem d_Md_end_19 : decode b_Md_end 19 = .ok (.iload_n 1, 1) := by decide +kernel
set_option maxRecDepth 100000 in
theorem d_Md_end_20 : decode b_Md_end 20 = .ok (.ireturn, 1) := by decide +kernel
set_option maxRecDepth 100000 in
theorem d_Md_fare_0 : decode b_Md_fare 0 = .ok (.iload_n 1, 1) := by decide +kernel
set_option maxRecDepth 100000 in
theorem d_Md_fare_1 : decode b_Md_fare 1 = .ok (.iconst 0, 1) := by decide +kernel
set_option maxRecDepth 100000 in
theorem d_Md_fare_2 : decode b_Md_fare 2 = .ok (.aload_n 0, 1) := by decide +kernel
set_option maxRecDepth 100000 in
theorem d_Md_fare_3 : decode b_Md_fare 3 = .ok (.getfield 275, 3) := by decide +kernel
set_option maxRecDepth 100000 in
theorem d_Md_fare_6 : decode b_Md_fare 6 = .ok (.iconst 1, 1) := by decide +kernel
set_option maxRecDepth 100000 in
theorem d_Md_fare_7 : decode b_Md_fare 7 = .ok (.isub, 1) := by decide +kernel
set_option maxRecDepth 100000 in
theorem d_Md_fare_8 : decode b_Md_fare 8 = .ok (.invokestatic 10, 3) := by decide +kernel
set_option maxRecDepth 100000 in
theorem d_Md_fare_11 : decode b_Md_fare 11 = .ok (.ifCond .eq 46, 3) := by decide +kernel
set_option maxRecDepth 100000 in
theorem d_Md_fare_57 : decode b_Md_fare 57 = .ok (.iconst (-1), 1) := by decide +kernel
set_option maxRecDepth 100000 in
theorem d_Md_fare_58 : decode b_Md_fare 58 = .ok (.ireturn, 1) := by decide +kernel
set_option maxRecDepth 100000 in
theorem d_Md_feed_0 : decode b_Md_feed 0 = .ok (.aload_n 0, 1) := by decide +kernel
set_option maxRecDepth 100000 in
theorem d_Md_feed_1 : decode b_Md_feed 1 = .ok (.getfield 212, 3) := by decide +kernel
set_option maxRecDepth 100000 in
theorem d_Md_feed_4 : decode b_Md_feed 4 = .ok (.bipush 20, 2) := by decide +kernel
set_option maxRecDepth 100000 in
theorem d_Md_feed_6 : decode b_Md_feed 6 = .ok (.iadd, 1) := by decide +kernel
set_option maxRecDepth 100000 in
theorem d_Md_feed_7 : decode b_Md_feed 7 = .ok (.sipush 400, 3) := by decide +kernel
set_option maxRecDepth 100000 in
theorem d_Md_feed_10 : decode b_Md_feed 10 = .ok (.if_icmp .le 6, 3) := by decide +kernel
set_option maxRecDepth 100000 in
theorem d_Md_feed_16 : decode b_Md_feed 16 = .ok (.aload_n 0, 1) := by decide +kernel
set_option maxRecDepth 100000 in
theorem d_Md_feed_17 : decode b_Md_feed 17 = .ok (.iload_n 1, 1) := by decide +kernel
set_option maxRecDepth 100000 in
theorem d_Md_feed_18 : decode b_Md_feed 18 = .ok (.invokevirtual 215, 3) := by decide +kernel
set_option maxRecDepth 100000 in
theorem d_Md_feed_21 : decode b_Md_feed 21 = .ok (.aload_n 0, 1) := by decide +kernel
set_option maxRecDepth 100000 in
theorem d_Md_feed_22 : decode b_Md_feed 22 = .ok (.iload_n 2, 1) := by decide +kernel
set_option maxRecDepth 100000 in
theorem d_Md_feed_23 : decode b_Md_feed 23 = .ok (.invokevirtual 215, 3) := by decide +kernel
set_option maxRecDepth 100000 in
theorem d_Md_feed_26 : decode b_Md_feed 26 = .ok (.aload_n 0, 1) := by decide +kernel
set_option maxRecDepth 100000 in
theorem d_Md_feed_27 : decode b_Md_feed 27 = .ok (.iload_n 3, 1) := by decide +kernel
set_option maxRecDepth 100000 in
theorem d_Md_feed_28 : decode b_Md_feed 28 = .ok (.invokevirtual 215, 3) := by decide +kernel
set_option maxRecDepth 100000 in
theorem d_Md_feed_31 : decode b_Md_feed 31 = .ok (.aload_n 0, 1) := by decide +kernel
set_option maxRecDepth 100000 in
theorem d_Md_feed_32 : decode b_Md_feed 32 = .ok (.iload 4, 2) := by decide +kernel
set_option maxRecDepth 100000 in
theorem d_Md_feed_34 : decode b_Md_feed 34 = .ok (.invokevirtual 215, 3) := by decide +kernel
set_option maxRecDepth 100000 in
theorem d_Md_feed_37 : decode b_Md_feed 37 = .ok (.aload_n 0, 1) := by decide +kernel
set_option maxRecDepth 100000 in
theorem d_Md_feed_38 : decode b_Md_feed 38 = .ok (.iload 5, 2) := by decide +kernel
set_option maxRecDepth 100000 in
theorem d_Md_feed_40 : decode b_Md_feed 40 = .ok (.invokevirtual 215, 3) := by decide +kernel
set_option maxRecDepth 100000 in
theorem d_Md_feed_43 : decode b_Md_feed 43 = .ok (.aload_n 0, 1) := by decide +kernel
set_option maxRecDepth 100000 in
theorem d_Md_feed_44 : decode b_Md_feed 44 = .ok (.getfield 212, 3) := by decide +kernel
set_option maxRecDepth 100000 in
theorem d_Md_feed_47 : decode b_Md_feed 47 = .ok (.ireturn, 1) := by decide +kernel
set_option maxRecDepth 100000 in
theorem d_Md_flow_0 : decode b_Md_flow 0 = .ok (.iload_n 1, 1) := by decide +kernel
set_option maxRecDepth 100000 in
theorem d_Md_flow_1 : decode b_Md_flow 1 = .ok (.invokestatic 38, 3) := by decide +kernel
set_option maxRecDepth 100000 in
theorem d_Md_flow_4 : decode b_Md_flow 4 = .ok (.ifCond .eq 22, 3) := by decide +kernel
set_option maxRecDepth 100000 in
theorem d_Md_flow_7 : decode b_Md_flow 7 = .ok (.iload_n 2, 1) := by decide +kernel
set_option maxRecDepth 100000 in
theorem d_Md_flow_8 : decode b_Md_flow 8 = .ok (.iconst 0, 1) := by decide +kernel
set_option maxRecDepth 100000 in
theorem d_Md_flow_9 : decode b_Md_flow 9 = .ok (.bipush 11, 2) := by decide +kernel
set_option maxRecDepth 100000 in
theorem d_Md_flow_11 : decode b_Md_flow 11 = .ok (.invokestatic 10, 3) := by decide +kernel
set_option maxRecDepth 100000 in
theorem d_Md_flow_14 : decode b_Md_flow 14 = .ok (.ifCond .eq 12, 3) := by decide +kernel
set_option maxRecDepth 100000 in
theorem d_Md_flow_17 : decode b_Md_flow 17 = .ok (.aload_n 0, 1) := by decide +kernel
set_option maxRecDepth 100000 in
theorem d_Md_flow_18 : decode b_Md_flow 18 = .ok (.iload_n 1, 1) := by decide +kernel
set_option maxRecDepth 100000 in
theorem d_Md_flow_19 : decode b_Md_flow 19 = .ok (.iload_n 2, 1) := by decide +kernel
set_option maxRecDepth 100000 in
theorem d_Md_flow_20 : decode b_Md_flow 20 = .ok (.invokevirtual 42, 3) := by decide +kernel
set_option maxRecDepth 100000 in
theorem d_Md_flow_23 : decode b_Md_flow 23 = .ok (.goto 6, 3) := by decide +kernel
set_option maxRecDepth 100000 in
theorem d_Md_flow_26 : decode b_Md_flow 26 = .ok (.sipush (-1000), 3) := by decide +kernel
set_option maxRecDepth 100000 in
theorem d_Md_flow_29 : decode b_Md_flow 29 = .ok (.ireturn, 1) := by decide +kernel
set_option maxRecDepth 100000 in
theorem d_Md_flowOf_0 : decode b_Md_flowOf 0 = .ok (.iload_n 2, 1) := by decide +kernel
set_option maxRecDepth 100000 in
theorem d_Md_flowOf_1 : decode b_Md_flowOf 1 = .ok (.bipush 11, 2) := by decide +kernel
set_option maxRecDepth 100000 in
theorem d_Md_flowOf_3 : decode b_Md_flowOf 3 = .ok (.if_icmp .ne 14, 3) := by decide +kernel
set_option maxRecDepth 100000 in
theorem d_Md_flowOf_6 : decode b_Md_flowOf 6 = .ok (.aload_n 0, 1) := by decide +kernel
set_option maxRecDepth 100000 in
theorem d_Md_flowOf_7 : decode b_Md_flowOf 7 = .ok (.iload_n 1, 1) := by decide +kernel
set_option maxRecDepth 100000 in
theorem d_Md_flowOf_8 : decode b_Md_flowOf 8 = .ok (.iconst 1, 1) := by decide +kernel
set_option maxRecDepth 100000 in
theorem d_Md_flowOf_9 : decode b_Md_flowOf 9 = .ok (.iadd, 1) := by decide +kernel
set_option maxRecDepth 100000 in
theorem d_Md_flowOf_10 : decode b_Md_flowOf 10 = .ok (.iconst 0, 1) := by decide +kernel
set_option maxRecDepth 100000 in
theorem d_Md_flowOf_11 : decode b_Md_flowOf 11 = .ok (.invokevirtual 28, 3) := by decide +kernel
set_option maxRecDepth 100000 in
theorem d_Md_flowOf_14 : decode b_Md_flowOf 14 = .ok (.goto 11, 3) := by decide +kernel
set_option maxRecDepth 100000 in
theorem d_Md_flowOf_17 : decode b_Md_flowOf 17 = .ok (.aload_n 0, 1) := by decide +kernel
set_option maxRecDepth 100000 in
theorem d_Md_flowOf_18 : decode b_Md_flowOf 18 = .ok (.iload_n 1, 1) := by decide +kernel
set_option maxRecDepth 100000 in
theorem d_Md_flowOf_19 : decode b_Md_flowOf 19 = .ok (.iload_n 2, 1) := by decide +kernel
set_option maxRecDepth 100000 in
theorem d_Md_flowOf_20 : decode b_Md_flowOf 20 = .ok (.iconst 1, 1) := by decide +kernel
set_option maxRecDepth 100000 in
theorem d_Md_flowOf_21 : decode b_Md_flowOf 21 = .ok (.iadd, 1) := by decide +kernel
set_option maxRecDepth 100000 in
theorem d_Md_flowOf_22 : decode b_Md_flowOf 22 = .ok (.invokevirtual 28, 3) := by decide +kernel
set_option maxRecDepth 100000 in
theorem d_Md_flowOf_25 : decode b_Md_flowOf 25 = .ok (.aload_n 0, 1) := by decide +kernel
set_option maxRecDepth 100000 in
theorem d_Md_flowOf_26 : decode b_Md_flowOf 26 = .ok (.iload_n 1, 1) := by decide +kernel
set_option maxRecDepth 100000 in
theorem d_Md_flowOf_27 : decode b_Md_flowOf 27 = .ok (.iload_n 2, 1) := by decide +kernel
set_option maxRecDepth 100000 in
theorem d_Md_flowOf_28 : decode b_Md_flowOf 28 = .ok (.invokevirtual 28, 3) := by decide +kernel
set_option maxRecDepth 100000 in
theorem d_Md_flowOf_31 : decode b_Md_flowOf 31 = .ok (.isub, 1) := by decide +kernel
set_option maxRecDepth 100000 in
theorem d_Md_flowOf_32 : decode b_Md_flowOf 32 = .ok (.ireturn, 1) := by decide +kernel
set_option maxRecDepth 100000 in
theorem d_Md_forceOn_0 : decode b_Md_forceOn 0 = .ok (.aload_n 0, 1) := by decide +kernel
set_option maxRecDepth 100000 in
theorem d_Md_forceOn_1 : decode b_Md_forceOn 1 = .ok (.getfield 275, 3) := by decide +kernel
set_option maxRecDepth 100000 in
theorem d_Md_forceOn_4 : decode b_Md_forceOn 4 = .ok (.iconst 1, 1) := by decide +kernel
set_option maxRecDepth 100000 in
theorem d_Md_forceOn_5 : decode b_Md_forceOn 5 = .ok (.isub, 1) := by decide +kernel
set_option maxRecDepth 100000 in
theorem d_Md_forceOn_6 : decode b_Md_forceOn 6 = .ok (.istore_n 3, 1) := by decide +kernel
set_option maxRecDepth 100000 in
theorem d_Md_forceOn_7 : decode b_Md_forceOn 7 = .ok (.iload_n 3, 1) := by decide +kernel
set_option maxRecDepth 100000 in
theorem d_Md_forceOn_8 : decode b_Md_forceOn 8 = .ok (.ifCond .lt 31, 3) := by decide +kernel
set_option maxRecDepth 100000 in
theorem d_Md_forceOn_39 : decode b_Md_forceOn 39 = .ok (.bipush (-2), 2) := by decide +kernel
set_option maxRecDepth 100000 in
theorem d_Md_forceOn_41 : decode b_Md_forceOn 41 = .ok (.ireturn, 1) := by decide +kernel
set_option maxRecDepth 100000 in
theorem d_Md_foretold_0 : decode b_Md_foretold 0 = .ok (.lconst 0, 1) := by decide +kernel
set_option maxRecDepth 100000 in
theorem d_Md_foretold_1 : decode b_Md_foretold 1 = .ok (.lstore_n 1, 1) := by decide +kernel
set_option maxRecDepth 100000 in
theorem d_Md_foretold_2 : decode b_Md_foretold 2 = .ok (.aload_n 0, 1) := by decide +kernel
set_option maxRecDepth 100000 in
theorem d_Md_foretold_3 : decode b_Md_foretold 3 = .ok (.invokevirtual 45, 3) := by decide +kernel
set_option maxRecDepth 100000 in
theorem d_Md_foretold_6 : decode b_Md_foretold 6 = .ok (.bipush 100, 2) := by decide +kernel
set_option maxRecDepth 100000 in
theorem d_Md_foretold_8 : decode b_Md_foretold 8 = .ok (.if_icmp .ge 7, 3) := by decide +kernel
set_option maxRecDepth 100000 in
theorem d_Md_foretold_11 : decode b_Md_foretold 11 = .ok (.iconst 0, 1) := by decide +kernel
set_option maxRecDepth 100000 in
theorem d_Md_foretold_12 : decode b_Md_foretold 12 = .ok (.goto 10, 3) := by decide +kernel
set_option maxRecDepth 100000 in
theorem d_Md_foretold_22 : decode b_Md_foretold 22 = .ok (.istore_n 3, 1) := by decide +kernel
set_option maxRecDepth 100000 in
theorem d_Md_foretold_23 : decode b_Md_foretold 23 = .ok (.iload_n 3, 1) := by decide +kernel
set_option maxRecDepth 100000 in
theorem d_Md_foretold_24 : decode b_Md_foretold 24 = .ok (.aload_n 0, 1) := by decide +kernel
set_option maxRecDepth 100000 in
theorem d_Md_foretold_25 : decode b_Md_foretold 25 = .ok (.invokevirtual 45, 3) := by decide +kernel
set_option maxRecDepth 100000 in
theorem d_Md_foretold_28 : decode b_Md_foretold 28 = .ok (.if_icmp .gt 18, 3) := by decide +kernel
set_option maxRecDepth 100000 in
theorem d_Md_foretold_31 : decode b_Md_foretold 31 = .ok (.lload_n 1, 1) := by decide +kernel
set_option maxRecDepth 100000 in
theorem d_Md_foretold_32 : decode b_Md_foretold 32 = .ok (.aload_n 0, 1) := by decide +kernel
set_option maxRecDepth 100000 in
theorem d_Md_foretold_33 : decode b_Md_foretold 33 = .ok (.getfield 173, 3) := by decide +kernel
set_option maxRecDepth 100000 in
theorem d_Md_foretold_36 : decode b_Md_foretold 36 = .ok (.iload_n 3, 1) := by decide +kernel
set_option maxRecDepth 100000 in
theorem d_Md_foretold_37 : decode b_Md_foretold 37 = .ok (.laload, 1) := by decide +kernel
set_option maxRecDepth 100000 in
theorem d_Md_foretold_38 : decode b_Md_foretold 38 = .ok (.ladd, 1) := by decide +kernel
set_option maxRecDepth 100000 in
theorem d_Md_foretold_39 : decode b_Md_foretold 39 = .ok (.lstore_n 1, 1) := by decide +kernel
set_option maxRecDepth 100000 in
theorem d_Md_foretold_40 : decode b_Md_foretold 40 = .ok (.iinc 3 1, 3) := by decide +kernel
set_option maxRecDepth 100000 in
theorem d_Md_foretold_43 : decode b_Md_foretold 43 = .ok (.goto (-20), 3) := by decide +kernel
set_option maxRecDepth 100000 in
theorem d_Md_foretold_46 : decode b_Md_foretold 46 = .ok (.aload_n 0, 1) := by decide +kernel
set_option maxRecDepth 100000 in
theorem d_Md_foretold_47 : decode b_Md_foretold 47 = .ok (.getfield 316, 3) := by decide +kernel
set_option maxRecDepth 100000 in
theorem d_Md_foretold_50 : decode b_Md_foretold 50 = .ok (.lstore_n 3, 1) := by decide +kernel
set_option maxRecDepth 100000 in
theorem d_Md_foretold_51 : decode b_Md_foretold 51 = .ok (.iconst 1, 1) := by decide +kernel
set_option maxRecDepth 100000 in
theorem d_Md_foretold_52 : decode b_Md_foretold 52 = .ok (.istore 5, 2) := by decide +kernel
set_option maxRecDepth 100000 in
theorem d_Md_foretold_54 : decode b_Md_foretold 54 = .ok (.iload 5, 2) := by decide +kernel
set_option maxRecDepth 100000 in
theorem d_Md_foretold_56 : decode b_Md_foretold 56 = .ok (.bipush 40, 2) := by decide +kernel
set_option maxRecDepth 100000 in
theorem d_Md_foretold_58 : decode b_Md_foretold 58 = .ok (.if_icmp .gt 88, 3) := by decide +kernel
set_option maxRecDepth 100000 in
theorem d_Md_foretold_61 : decode b_Md_foretold 61 = .ok (.aload_n 0, 1) := by decide +kernel
set_option maxRecDepth 100000 in
theorem d_Md_foretold_62 : decode b_Md_foretold 62 = .ok (.invokevirtual 45, 3) := by decide +kernel
set_option maxRecDepth 100000 in
theorem d_Md_foretold_65 : decode b_Md_foretold 65 = .ok (.bipush 100, 2) := by decide +kernel
set_option maxRecDepth 100000 in
theorem d_Md_foretold_67 : decode b_Md_foretold 67 = .ok (.idiv, 1) := by decide +kernel
set_option maxRecDepth 100000 in
theorem d_Md_foretold_68 : decode b_Md_foretold 68 = .ok (.iload 5, 2) := by decide +kernel
set_option maxRecDepth 100000 in
theorem d_Md_foretold_70 : decode b_Md_foretold 70 = .ok (.iadd, 1) := by decide +kernel
set_option maxRecDepth 100000 in
theorem d_Md_foretold_71 : decode b_Md_foretold 71 = .ok (.bipush 100, 2) := by decide +kernel
set_option maxRecDepth 100000 in
theorem d_Md_foretold_73 : decode b_Md_foretold 73 = .ok (.imul, 1) := by decide +kernel
set_option maxRecDepth 100000 in
theorem d_Md_foretold_74 : decode b_Md_foretold 74 = .ok (.istore 6, 2) := by decide +kernel
set_option maxRecDepth 100000 in
theorem d_Md_foretold_76 : decode b_Md_foretold 76 = .ok (.lload_n 3, 1) := by decide +kernel
set_option maxRecDepth 100000 in
theorem d_Md_foretold_77 : decode b_Md_foretold 77 = .ok (.lload_n 1, 1) := by decide +kernel
set_option maxRecDepth 100000 in
theorem d_Md_foretold_78 : decode b_Md_foretold 78 = .ok (.ladd, 1) := by decide +kernel
set_option maxRecDepth 100000 in
theorem d_Md_foretold_79 : decode b_Md_foretold 79 = .ok (.lstore_n 3, 1) := by decide +kernel
set_option maxRecDepth 100000 in
theorem d_Md_foretold_80 : decode b_Md_foretold 80 = .ok (.iconst 0, 1) := by decide +kernel
set_option maxRecDepth 100000 in
theorem d_Md_foretold_81 : decode b_Md_foretold 81 = .ok (.istore 7, 2) := by decide +kernel
set_option maxRecDepth 100000 in
theorem d_Md_foretold_83 : decode b_Md_foretold 83 = .ok (.iload 7, 2) := by decide +kernel
set_option maxRecDepth 100000 in
theorem d_Md_foretold_85 : decode b_Md_foretold 85 = .ok (.aload_n 0, 1) := by decide +kernel
set_option maxRecDepth 100000 in
theorem d_Md_foretold_86 : decode b_Md_foretold 86 = .ok (.getfield 323, 3) := by decide +kernel
set_option maxRecDepth 100000 in
theorem d_Md_foretold_89 : decode b_Md_foretold 89 = .ok (.if_icmp .ge 51, 3) := by decide +kernel
set_option maxRecDepth 100000 in
theorem d_Md_foretold_140 : decode b_Md_foretold 140 = .ok (.iinc 5 1, 3) := by decide +kernel
set_option maxRecDepth 100000 in
theorem d_Md_foretold_143 : decode b_Md_foretold 143 = .ok (.goto (-89), 3) := by decide +kernel
set_option maxRecDepth 100000 in
theorem d_Md_foretold_146 : decode b_Md_foretold 146 = .ok (.bipush (-2), 2) := by decide +kernel
set_option maxRecDepth 100000 in
theorem d_Md_foretold_148 : decode b_Md_foretold 148 = .ok (.ireturn, 1) := by decide +kernel
set_option maxRecDepth 100000 in
theorem d_Md_four_0 : decode b_Md_four 0 = .ok (.iconst 3, 1) := by decide +kernel
set_option maxRecDepth 100000 in
theorem d_Md_four_1 : decode b_Md_four 1 = .ok (.istore_n 2, 1) := by decide +kernel
set_option maxRecDepth 100000 in
theorem d_Md_four_2 : decode b_Md_four 2 = .ok (.iload_n 2, 1) := by decide +kernel
set_option maxRecDepth 100000 in
theorem d_Md_four_3 : decode b_Md_four 3 = .ok (.ifCond .lt 35, 3) := by decide +kernel
set_option maxRecDepth 100000 in
theorem d_Md_four_6 : decode b_Md_four 6 = .ok (.aload_n 0, 1) := by decide +kernel
set_option maxRecDepth 100000 in
theorem d_Md_four_7 : decode b_Md_four 7 = .ok (.getfield 109, 3) := by decide +kernel
set_option maxRecDepth 100000 in
theorem d_Md_four_10 : decode b_Md_four 10 = .ok (.aload_n 0, 1) := by decide +kernel
set_option maxRecDepth 100000 in
theorem d_Md_four_11 : decode b_Md_four 11 = .ok (.getfield 212, 3) := by decide +kernel
set_option maxRecDepth 100000 in
theorem d_Md_four_14 : decode b_Md_four 14 = .ok (.iload_n 1, 1) := by decide +kernel
set_option maxRecDepth 100000 in
theorem d_Md_four_15 : decode b_Md_four 15 = .ok (.bipush 8, 2) := by decide +kernel
set_option maxRecDepth 100000 in
theorem d_Md_four_17 : decode b_Md_four 17 = .ok (.iload_n 2, 1) := by decide +kernel
set_option maxRecDepth 100000 in
theorem d_Md_four_18 : decode b_Md_four 18 = .ok (.imul, 1) := by decide +kernel
set_option maxRecDepth 100000 in
theorem d_Md_four_19 : decode b_Md_four 19 = .ok (.ishr, 1) := by decide +kernel
set_option maxRecDepth 100000 in
theorem d_Md_four_20 : decode b_Md_four 20 = .ok (.i2b, 1) := by decide +kernel
set_option maxRecDepth 100000 in
theorem d_Md_four_21 : decode b_Md_four 21 = .ok (.bastore, 1) := by decide +kernel
set_option maxRecDepth 100000 in
theorem d_Md_four_22 : decode b_Md_four 22 = .ok (.aload_n 0, 1) := by decide +kernel
set_option maxRecDepth 100000 in
theorem d_Md_four_23 : decode b_Md_four 23 = .ok (.dup, 1) := by decide +kernel
set_option maxRecDepth 100000 in
theorem d_Md_four_24 : decode b_Md_four 24 = .ok (.getfield 212, 3) := by decide +kernel
set_option maxRecDepth 100000 in
theorem d_Md_four_27 : decode b_Md_four 27 = .ok (.iconst 1, 1) := by decide +kernel
set_option maxRecDepth 100000 in
theorem d_Md_four_28 : decode b_Md_four 28 = .ok (.iadd, 1) := by decide +kernel
set_option maxRecDepth 100000 in
theorem d_Md_four_29 : decode b_Md_four 29 = .ok (.putfield 212, 3) := by decide +kernel
set_option maxRecDepth 100000 in
theorem d_Md_four_32 : decode b_Md_four 32 = .ok (.iinc 2 (-1), 3) := by decide +kernel
set_option maxRecDepth 100000 in
theorem d_Md_four_35 : decode b_Md_four 35 = .ok (.goto (-33), 3) := by decide +kernel
set_option maxRecDepth 100000 in
theorem d_Md_four_38 : decode b_Md_four 38 = .ok (.return_, 1) := by decide +kernel
set_option maxRecDepth 100000 in
theorem d_Md_free_0 : decode b_Md_free 0 = .ok (.iload_n 1, 1) := by decide +kernel
set_option maxRecDepth 100000 in
theorem d_Md_free_1 : decode b_Md_free 1 = .ok (.invokestatic 186, 3) := by decide +kernel
set_option maxRecDepth 100000 in
theorem d_Md_free_4 : decode b_Md_free 4 = .ok (.ifCond .ne 5, 3) := by decide +kernel
set_option maxRecDepth 100000 in
theorem d_Md_free_7 : decode b_Md_free 7 = .ok (.iconst (-1), 1) := by decide +kernel
set_option maxRecDepth 100000 in
theorem d_Md_free_8 : decode b_Md_free 8 = .ok (.ireturn, 1) := by decide +kernel
set_option maxRecDepth 100000 in
theorem d_Md_free_9 : decode b_Md_free 9 = .ok (.aload_n 0, 1) := by decide +kernel
set_option maxRecDepth 100000 in
theorem d_Md_free_10 : decode b_Md_free 10 = .ok (.getfield 58, 3) := by decide +kernel
set_option maxRecDepth 100000 in
theorem d_Md_free_13 : decode b_Md_free 13 = .ok (.iload_n 1, 1) := by decide +kernel
set_option maxRecDepth 100000 in
theorem d_Md_free_14 : decode b_Md_free 14 = .ok (.iaload, 1) := by decide +kernel
set_option maxRecDepth 100000 in
theorem d_Md_free_15 : decode b_Md_free 15 = .ok (.ifCond .eq 6, 3) := by decide +kernel
set_option maxRecDepth 100000 in
theorem d_Md_free_21 : decode b_Md_free 21 = .ok (.aload_n 0, 1) := by decide +kernel
set_option maxRecDepth 100000 in
theorem d_Md_free_22 : decode b_Md_free 22 = .ok (.getfield 58, 3) := by decide +kernel
set_option maxRecDepth 100000 in
theorem d_Md_free_25 : decode b_Md_free 25 = .ok (.iload_n 1, 1) := by decide +kernel
set_option maxRecDepth 100000 in
theorem d_Md_free_26 : decode b_Md_free 26 = .ok (.iconst 2, 1) := by decide +kernel
set_option maxRecDepth 100000 in
theorem d_Md_free_27 : decode b_Md_free 27 = .ok (.iastore, 1) := by decide +kernel
set_option maxRecDepth 100000 in
theorem d_Md_free_28 : decode b_Md_free 28 = .ok (.iconst 1, 1) := by decide +kernel
set_option maxRecDepth 100000 in
theorem d_Md_free_29 : decode b_Md_free 29 = .ok (.ireturn, 1) := by decide +kernel
set_option maxRecDepth 100000 in
theorem d_Md_frost_0 : decode b_Md_frost 0 = .ok (.iload_n 1, 1) := by decide +kernel
set_option maxRecDepth 100000 in
theorem d_Md_frost_1 : decode b_Md_frost 1 = .ok (.aload_n 0, 1) := by decide +kernel
set_option maxRecDepth 100000 in
theorem d_Md_frost_2 : decode b_Md_frost 2 = .ok (.invokevirtual 45, 3) := by decide +kernel
set_option maxRecDepth 100000 in
theorem d_Md_frost_5 : decode b_Md_frost 5 = .ok (.sipush 499, 3) := by decide +kernel
set_option maxRecDepth 100000 in
theorem d_Md_frost_8 : decode b_Md_frost 8 = .ok (.invokestatic 10, 3) := by decide +kernel
set_option maxRecDepth 100000 in
theorem d_Md_frost_11 : decode b_Md_frost 11 = .ok (.ifCond .eq 12, 3) := by decide +kernel
set_option maxRecDepth 100000 in
theorem d_Md_frost_14 : decode b_Md_frost 14 = .ok (.iload_n 2, 1) := by decide +kernel
set_option maxRecDepth 100000 in
theorem d_Md_frost_15 : decode b_Md_frost 15 = .ok (.iconst 0, 1) := by decide +kernel
set_option maxRecDepth 100000 in
theorem d_Md_frost_16 : decode b_Md_frost 16 = .ok (.iconst 1, 1) := by decide +kernel
set_option maxRecDepth 100000 in
theorem d_Md_frost_17 : decode b_Md_frost 17 = .ok (.invokestatic 10, 3) := by decide +kernel
set_option maxRecDepth 100000 in
theorem d_Md_frost_20 : decode b_Md_frost 20 = .ok (.ifCond .ne 5, 3) := by decide +kernel
set_option maxRecDepth 100000 in
theorem d_Md_frost_23 : decode b_Md_frost 23 = .ok (.iconst (-1), 1) := by decide +kernel
set_option maxRecDepth 100000 in
theorem d_Md_frost_24 : decode b_Md_frost 24 = .ok (.ireturn, 1) := by decide +kernel
set_option maxRecDepth 100000 in
theorem d_Md_frost_25 : decode b_Md_frost 25 = .ok (.aload_n 0, 1) := by decide +kernel
set_option maxRecDepth 100000 in
theorem d_Md_frost_26 : decode b_Md_frost 26 = .ok (.getfield 49, 3) := by decide +kernel
set_option maxRecDepth 100000 in
theorem d_Md_frost_29 : decode b_Md_frost 29 = .ok (.iload_n 1, 1) := by decide +kernel
set_option maxRecDepth 100000 in
theorem d_Md_frost_30 : decode b_Md_frost 30 = .ok (.baload, 1) := by decide +kernel
set_option maxRecDepth 100000 in
theorem d_Md_frost_31 : decode b_Md_frost 31 = .ok (.ifCond .eq 7, 3) := by decide +kernel
set_option maxRecDepth 100000 in
theorem d_Md_frost_38 : decode b_Md_frost 38 = .ok (.iconst 0, 1) := by decide +kernel
set_option maxRecDepth 100000 in
theorem d_Md_frost_39 : decode b_Md_frost 39 = .ok (.istore_n 3, 1) := by decide +kernel
set_option maxRecDepth 100000 in
theorem d_Md_frost_40 : decode b_Md_frost 40 = .ok (.aload_n 0, 1) := by decide +kernel
set_option maxRecDepth 100000 in
theorem d_Md_frost_41 : decode b_Md_frost 41 = .ok (.getfield 49, 3) := by decide +kernel
set_option maxRecDepth 100000 in
theorem d_Md_frost_44 : decode b_Md_frost 44 = .ok (.iload_n 1, 1) := by decide +kernel
set_option maxRecDepth 100000 in
theorem d_Md_frost_45 : decode b_Md_frost 45 = .ok (.iload_n 2, 1) := by decide +kernel
set_option maxRecDepth 100000 in
theorem d_Md_frost_46 : decode b_Md_frost 46 = .ok (.iconst 1, 1) := by decide +kernel
set_option maxRecDepth 100000 in
theorem d_Md_frost_47 : decode b_Md_frost 47 = .ok (.if_icmp .ne 7, 3) := by decide +kernel
set_option maxRecDepth 100000 in
theorem d_Md_frost_50 : decode b_Md_frost 50 = .ok (.iconst 1, 1) := by decide +kernel
set_option maxRecDepth 100000 in
theorem d_Md_frost_51 : decode b_Md_frost 51 = .ok (.goto 4, 3) := by decide +kernel
set_option maxRecDepth 100000 in
theorem d_Md_frost_54 : decode b_Md_frost 54 = .ok (.iconst 0, 1) := by decide +kernel
set_option maxRecDepth 100000 in
theorem d_Md_frost_55 : decode b_Md_frost 55 = .ok (.bastore, 1) := by decide +kernel
set_option maxRecDepth 100000 in
theorem d_Md_frost_56 : decode b_Md_frost 56 = .ok (.iload_n 3, 1) := by decide +kernel
set_option maxRecDepth 100000 in
theorem d_Md_frost_57 : decode b_Md_frost 57 = .ok (.ireturn, 1) := by decide +kernel
set_option maxRecDepth 100000 in
theorem d_Md_in_0 : decode b_Md_in 0 = .ok (.iload_n 0, 1) := by decide +kernel
set_option maxRecDepth 100000 in
theorem d_Md_in_1 : decode b_Md_in 1 = .ok (.iload_n 1, 1) := by decide +kernel
set_option maxRecDepth 100000 in
theorem d_Md_in_2 : decode b_Md_in 2 = .ok (.if_icmp .lt 12, 3) := by decide +kernel
set_option maxRecDepth 100000 in
theorem d_Md_in_5 : decode b_Md_in 5 = .ok (.iload_n 0, 1) := by decide +kernel
set_option maxRecDepth 100000 in
theorem d_Md_in_6 : decode b_Md_in 6 = .ok (.iload_n 2, 1) := by decide +kernel
set_option maxRecDepth 100000 in
theorem d_Md_in_7 : decode b_Md_in 7 = .ok (.if_icmp .gt 7, 3) := by decide +kernel
set_option maxRecDepth 100000 in
theorem d_Md_in_10 : decode b_Md_in 10 = .ok (.iconst 1, 1) := by decide +kernel
set_option maxRecDepth 100000 in
theorem d_Md_in_11 : decode b_Md_in 11 = .ok (.goto 4, 3) := by decide +kernel
set_option maxRecDepth 100000 in
theorem d_Md_in_14 : decode b_Md_in 14 = .ok (.iconst 0, 1) := by decide +kernel
set_option maxRecDepth 100000 in
theorem d_Md_in_15 : decode b_Md_in 15 = .ok (.ireturn, 1) := by decide +kernel
set_option maxRecDepth 100000 in
theorem d_Md_inForce_0 : decode b_Md_inForce 0 = .ok (.iload_n 1, 1) := by decide +kernel
set_option maxRecDepth 100000 in
theorem d_Md_inForce_1 : decode b_Md_inForce 1 = .ok (.invokestatic 38, 3) := by decide +kernel
set_option maxRecDepth 100000 in
theorem d_Md_inForce_4 : decode b_Md_inForce 4 = .ok (.ifCond .eq 19, 3) := by decide +kernel
set_option maxRecDepth 100000 in
theorem d_Md_inForce_7 : decode b_Md_inForce 7 = .ok (.iload_n 2, 1) := by decide +kernel
set_option maxRecDepth 100000 in
theorem d_Md_inForce_8 : decode b_Md_inForce 8 = .ok (.invokestatic 38, 3) := by decide +kernel
set_option maxRecDepth 100000 in
theorem d_Md_inForce_11 : decode b_Md_inForce 11 = .ok (.ifCond .eq 12, 3) := by decide +kernel
set_option maxRecDepth 100000 in
theorem d_Md_inForce_14 : decode b_Md_inForce 14 = .ok (.aload_n 0, 1) := by decide +kernel
set_option maxRecDepth 100000 in
theorem d_Md_inForce_15 : decode b_Md_inForce 15 = .ok (.iload_n 1, 1) := by decide +kernel
set_option maxRecDepth 100000 in
theorem d_Md_inForce_16 : decode b_Md_inForce 16 = .ok (.iload_n 2, 1) := by decide +kernel
set_option maxRecDepth 100000 in
theorem d_Md_inForce_17 : decode b_Md_inForce 17 = .ok (.invokevirtual 281, 3) := by decide +kernel
set_option maxRecDepth 100000 in
theorem d_Md_inForce_20 : decode b_Md_inForce 20 = .ok (.goto 4, 3) := by decide +kernel
set_option maxRecDepth 100000 in
theorem d_Md_inForce_23 : decode b_Md_inForce 23 = .ok (.iconst (-1), 1) := by decide +kernel
set_option maxRecDepth 100000 in
theorem d_Md_inForce_24 : decode b_Md_inForce 24 = .ok (.ireturn, 1) := by decide +kernel
set_option maxRecDepth 100000 in
theorem d_Md_init_0 : decode b_Md_init 0 = .ok (.aload_n 0, 1) := by decide +kernel
set_option maxRecDepth 100000 in
theorem d_Md_init_1 : decode b_Md_init 1 = .ok (.invokespecial 52, 3) := by decide +kernel
set_option maxRecDepth 100000 in
theorem d_Md_init_4 : decode b_Md_init 4 = .ok (.aload_n 0, 1) := by decide +kernel
set_option maxRecDepth 100000 in
theorem d_Md_init_5 : decode b_Md_init 5 = .ok (.bipush 12, 2) := by decide +kernel
set_option maxRecDepth 100000 in
theorem d_Md_init_7 : decode b_Md_init 7 = .ok (.newarray .int, 2) := by decide +kernel
set_option maxRecDepth 100000 in
theorem d_Md_init_9 : decode b_Md_init 9 = .ok (.putfield 32, 3) := by decide +kernel
set_option maxRecDepth 100000 in
theorem d_Md_init_12 : decode b_Md_init 12 = .ok (.aload_n 0, 1) := by decide +kernel
set_option maxRecDepth 100000 in
theorem d_Md_init_13 : decode b_Md_init 13 = .ok (.iconst (-1), 1) := by decide +kernel
set_option maxRecDepth 100000 in
theorem d_Md_init_14 : decode b_Md_init 14 = .ok (.putfield 35, 3) := by decide +kernel
set_option maxRecDepth 100000 in
theorem d_Md_init_17 : decode b_Md_init 17 = .ok (.aload_n 0, 1) := by decide +kernel
set_option maxRecDepth 100000 in
theorem d_Md_init_18 : decode b_Md_init 18 = .ok (.bipush 12, 2) := by decide +kernel
set_option maxRecDepth 100000 in
theorem d_Md_init_20 : decode b_Md_init 20 = .ok (.newarray .int, 2) := by decide +kernel
set_option maxRecDepth 100000 in
theorem d_Md_init_22 : decode b_Md_init 22 = .ok (.putfield 25, 3) := by decide +kernel
set_option maxRecDepth 100000 in
theorem d_Md_init_25 : decode b_Md_init 25 = .ok (.aload_n 0, 1) := by decide +kernel
set_option maxRecDepth 100000 in
theorem d_Md_init_26 : decode b_Md_init 26 = .ok (.sipush 500, 3) := by decide +kernel
set_option maxRecDepth 100000 in
theorem d_Md_init_29 : decode b_Md_init 29 = .ok (.newarray .boolean, 2) := by decide +kernel
set_option maxRecDepth 100000 in
theorem d_Md_init_31 : decode b_Md_init 31 = .ok (.putfield 17, 3) := by decide +kernel
set_option maxRecDepth 100000 in
theorem d_Md_init_34 : decode b_Md_init 34 = .ok (.aload_n 0, 1) := by decide +kernel
set_option maxRecDepth 100000 in
theorem d_Md_init_35 : decode b_Md_init 35 = .ok (.sipush 6000, 3) := by decide +kernel
set_option maxRecDepth 100000 in
theorem d_Md_init_38 : decode b_Md_init 38 = .ok (.newarray .int, 2) := by decide +kernel
set_option maxRecDepth 100000 in
theorem d_Md_init_40 : decode b_Md_init 40 = .ok (.putfield 21, 3) := by decide +kernel
set_option maxRecDepth 100000 in
theorem d_Md_init_43 : decode b_Md_init 43 = .ok (.aload_n 0, 1) := by decide +kernel
set_option maxRecDepth 100000 in
theorem d_Md_init_44 : decode b_Md_init 44 = .ok (.sipush 500, 3) := by decide +kernel
set_option maxRecDepth 100000 in
theorem d_Md_init_47 : decode b_Md_init 47 = .ok (.newarray .boolean, 2) := by decide +kernel
set_option maxRecDepth 100000 in
theorem d_Md_init_49 : decode b_Md_init 49 = .ok (.putfield 49, 3) := by decide +kernel
set_option maxRecDepth 100000 in
theorem d_Md_init_52 : decode b_Md_init 52 = .ok (.aload_n 0, 1) := by decide +kernel
set_option maxRecDepth 100000 in
theorem d_Md_init_53 : decode b_Md_init 53 = .ok (.bipush 40, 2) := by decide +kernel
set_option maxRecDepth 100000 in
theorem d_Md_init_55 : decode b_Md_init 55 = .ok (.newarray .int, 2) := by decide +kernel
set_option maxRecDepth 100000 in
theorem d_Md_init_57 : decode b_Md_init 57 = .ok (.putfield 58, 3) := by decide +kernel
set_option maxRecDepth 100000 in
theorem d_Md_init_60 : decode b_Md_init 60 = .ok (.aload_n 0, 1) := by decide +kernel
set_option maxRecDepth 100000 in
theorem d_Md_init_61 : decode b_Md_init 61 = .ok (.bipush 40, 2) := by decide +kernel
set_option maxRecDepth 100000 in
theorem d_Md_init_63 : decode b_Md_init 63 = .ok (.newarray .int, 2) := by decide +kernel
set_option maxRecDepth 100000 in
theorem d_Md_init_65 : decode b_Md_init 65 = .ok (.putfield 61, 3) := by decide +kernel
set_option maxRecDepth 100000 in
theorem d_Md_init_68 : decode b_Md_init 68 = .ok (.aload_n 0, 1) := by decide +kernel
set_option maxRecDepth 100000 in
theorem d_Md_init_69 : decode b_Md_init 69 = .ok (.bipush 40, 2) := by decide +kernel
set_option maxRecDepth 100000 in
theorem d_Md_init_71 : decode b_Md_init 71 = .ok (.newarray .int, 2) := by decide +kernel
set_option maxRecDepth 100000 in
theorem d_Md_init_73 : decode b_Md_init 73 = .ok (.putfield 64, 3) := by decide +kernel
set_option maxRecDepth 100000 in
theorem d_Md_init_76 : decode b_Md_init 76 = .ok (.aload_n 0, 1) := by decide +kernel
set_option maxRecDepth 100000 in
theorem d_Md_init_77 : decode b_Md_init 77 = .ok (.bipush 40, 2) := by decide +kernel
set_option maxRecDepth 100000 in
theorem d_Md_init_79 : decode b_Md_init 79 = .ok (.newarray .int, 2) := by decide +kernel
set_option maxRecDepth 100000 in
theorem d_Md_init_81 : decode b_Md_init 81 = .ok (.putfield 67, 3) := by decide +kernel
set_option maxRecDepth 100000 in
theorem d_Md_init_84 : decode b_Md_init 84 = .ok (.aload_n 0, 1) := by decide +kernel
set_option maxRecDepth 100000 in
theorem d_Md_init_85 : decode b_Md_init 85 = .ok (.sipush 240, 3) := by decide +kernel
set_option maxRecDepth 100000 in
theorem d_Md_init_88 : decode b_Md_init 88 = .ok (.newarray .int, 2) := by decide +kernel
set_option maxRecDepth 100000 in
theorem d_Md_init_90 : decode b_Md_init 90 = .ok (.putfield 70, 3) := by decide +kernel
set_option maxRecDepth 100000 in
theorem d_Md_init_93 : decode b_Md_init 93 = .ok (.aload_n 0, 1) := by decide +kernel
set_option maxRecDepth 100000 in
theorem d_Md_init_94 : decode b_Md_init 94 = .ok (.sipush 240, 3) := by decide +kernel
set_option maxRecDepth 100000 in
theorem d_Md_init_97 : decode b_Md_init 97 = .ok (.newarray .int, 2) := by decide +kernel
set_option maxRecDepth 100000 in
theorem d_Md_init_99 : decode b_Md_init 99 = .ok (.putfield 73, 3) := by decide +kernel
set_option maxRecDepth 100000 in
theorem d_Md_init_102 : decode b_Md_init 102 = .ok (.aload_n 0, 1) := by decide +kernel
set_option maxRecDepth 100000 in
theorem d_Md_init_103 : decode b_Md_init 103 = .ok (.bipush 40, 2) := by decide +kernel
set_option maxRecDepth 100000 in
theorem d_Md_init_105 : decode b_Md_init 105 = .ok (.newarray .int, 2) := by decide +kernel
set_option maxRecDepth 100000 in
theorem d_Md_init_107 : decode b_Md_init 107 = .ok (.putfield 76, 3) := by decide +kernel
set_option maxRecDepth 100000 in
theorem d_Md_init_110 : decode b_Md_init 110 = .ok (.aload_n 0, 1) := by decide +kernel
set_option maxRecDepth 100000 in
theorem d_Md_init_111 : decode b_Md_init 111 = .ok (.bipush 40, 2) := by decide +kernel
set_option maxRecDepth 100000 in
theorem d_Md_init_113 : decode b_Md_init 113 = .ok (.newarray .int, 2) := by decide +kernel
set_option maxRecDepth 100000 in
theorem d_Md_init_115 : decode b_Md_init 115 = .ok (.putfield 79, 3) := by decide +kernel
set_option maxRecDepth 100000 in
theorem d_Md_init_118 : decode b_Md_init 118 = .ok (.aload_n 0, 1) := by decide +kernel
set_option maxRecDepth 100000 in
theorem d_Md_init_119 : decode b_Md_init 119 = .ok (.bipush 40, 2) := by decide +kernel
set_option maxRecDepth 100000 in
theorem d_Md_init_121 : decode b_Md_init 121 = .ok (.newarray .int, 2) := by decide +kernel
set_option maxRecDepth 100000 in
theorem d_Md_init_123 : decode b_Md_init 123 = .ok (.putfield 82, 3) := by decide +kernel
set_option maxRecDepth 100000 in
theorem d_Md_init_126 : decode b_Md_init 126 = .ok (.aload_n 0, 1) := by decide +kernel
set_option maxRecDepth 100000 in
theorem d_Md_init_127 : decode b_Md_init 127 = .ok (.bipush 40, 2) := by decide +kernel
set_option maxRecDepth 100000 in
theorem d_Md_init_129 : decode b_Md_init 129 = .ok (.newarray .boolean, 2) := by decide +kernel
set_option maxRecDepth 100000 in
theorem d_Md_init_131 : decode b_Md_init 131 = .ok (.putfield 85, 3) := by decide +kernel
set_option maxRecDepth 100000 in
theorem d_Md_init_134 : decode b_Md_init 134 = .ok (.aload_n 0, 1) := by decide +kernel
set_option maxRecDepth 100000 in
theorem d_Md_init_135 : decode b_Md_init 135 = .ok (.bipush 12, 2) := by decide +kernel
set_option maxRecDepth 100000 in
theorem d_Md_init_137 : decode b_Md_init 137 = .ok (.newarray .int, 2) := by decide +kernel
set_option maxRecDepth 100000 in
theorem d_Md_init_139 : decode b_Md_init 139 = .ok (.putfield 88, 3) := by decide +kernel
set_option maxRecDepth 100000 in
theorem d_Md_init_142 : decode b_Md_init 142 = .ok (.aload_n 0, 1) := by decide +kernel
set_option maxRecDepth 100000 in
theorem d_Md_init_143 : decode b_Md_init 143 = .ok (.sipush 480, 3) := by decide +kernel
set_option maxRecDepth 100000 in
theorem d_Md_init_146 : decode b_Md_init 146 = .ok (.newarray .int, 2) := by decide +kernel
set_option maxRecDepth 100000 in
theorem d_Md_init_148 : decode b_Md_init 148 = .ok (.putfield 91, 3) := by decide +kernel
set_option maxRecDepth 100000 in
theorem d_Md_init_151 : decode b_Md_init 151 = .ok (.aload_n 0, 1) := by decide +kernel
set_option maxRecDepth 100000 in
theorem d_Md_init_152 : decode b_Md_init 152 = .ok (.bipush 20, 2) := by decide +kernel
set_option maxRecDepth 100000 in
theorem d_Md_init_154 : decode b_Md_init 154 = .ok (.newarray .int, 2) := by decide +kernel
set_option maxRecDepth 100000 in
theorem d_Md_init_156 : decode b_Md_init 156 = .ok (.putfield 94, 3) := by decide +kernel
set_option maxRecDepth 100000 in
theorem d_Md_init_159 : decode b_Md_init 159 = .ok (.aload_n 0, 1) := by decide +kernel
set_option maxRecDepth 100000 in
theorem d_Md_init_160 : decode b_Md_init 160 = .ok (.bipush 20, 2) := by decide +kernel
set_option maxRecDepth 100000 in
theorem d_Md_init_162 : decode b_Md_init 162 = .ok (.newarray .int, 2) := by decide +kernel
set_option maxRecDepth 100000 in
theorem d_Md_init_164 : decode b_Md_init 164 = .ok (.putfield 97, 3) := by decide +kernel
set_option maxRecDepth 100000 in
theorem d_Md_init_167 : decode b_Md_init 167 = .ok (.aload_n 0, 1) := by decide +kernel
set_option maxRecDepth 100000 in
theorem d_Md_init_168 : decode b_Md_init 168 = .ok (.bipush 20, 2) := by decide +kernel
set_option maxRecDepth 100000 in
theorem d_Md_init_170 : decode b_Md_init 170 = .ok (.newarray .int, 2) := by decide +kernel
set_option maxRecDepth 100000 in
theorem d_Md_init_172 : decode b_Md_init 172 = .ok (.putfield 100, 3) := by decide +kernel
set_option maxRecDepth 100000 in
theorem d_Md_init_175 : decode b_Md_init 175 = .ok (.aload_n 0, 1) := by decide +kernel
set_option maxRecDepth 100000 in
theorem d_Md_init_176 : decode b_Md_init 176 = .ok (.bipush 20, 2) := by decide +kernel
set_option maxRecDepth 100000 in
theorem d_Md_init_178 : decode b_Md_init 178 = .ok (.newarray .int, 2) := by decide +kernel
set_option maxRecDepth 100000 in
theorem d_Md_init_180 : decode b_Md_init 180 = .ok (.putfield 103, 3) := by decide +kernel
set_option maxRecDepth 100000 in
theorem d_Md_init_183 : decode b_Md_init 183 = .ok (.aload_n 0, 1) := by decide +kernel
set_option maxRecDepth 100000 in
theorem d_Md_init_184 : decode b_Md_init 184 = .ok (.bipush 20, 2) := by decide +kernel
set_option maxRecDepth 100000 in
theorem d_Md_init_186 : decode b_Md_init 186 = .ok (.newarray .boolean, 2) := by decide +kernel
set_option maxRecDepth 100000 in
theorem d_Md_init_188 : decode b_Md_init 188 = .ok (.putfield 106, 3) := by decide +kernel
set_option maxRecDepth 100000 in
theorem d_Md_init_191 : decode b_Md_init 191 = .ok (.aload_n 0, 1) := by decide +kernel
set_option maxRecDepth 100000 in
theorem d_Md_init_192 : decode b_Md_init 192 = .ok (.sipush 400, 3) := by decide +kernel
set_option maxRecDepth 100000 in
theorem d_Md_init_195 : decode b_Md_init 195 = .ok (.newarray .byte, 2) := by decide +kernel
set_option maxRecDepth 100000 in
theorem d_Md_init_197 : decode b_Md_init 197 = .ok (.putfield 109, 3) := by decide +kernel
set_option maxRecDepth 100000 in
theorem d_Md_init_200 : decode b_Md_init 200 = .ok (.aload_n 0, 1) := by decide +kernel
set_option maxRecDepth 100000 in
theorem d_Md_init_201 : decode b_Md_init 201 = .ok (.bipush 20, 2) := by decide +kernel
set_option maxRecDepth 100000 in
theorem d_Md_init_203 : decode b_Md_init 203 = .ok (.newarray .int, 2) := by decide +kernel
set_option maxRecDepth 100000 in
theorem d_Md_init_205 : decode b_Md_init 205 = .ok (.putfield 113, 3) := by decide +kernel
set_option maxRecDepth 100000 in
theorem d_Md_init_208 : decode b_Md_init 208 = .ok (.aload_n 0, 1) := by decide +kernel
set_option maxRecDepth 100000 in
theorem d_Md_init_209 : decode b_Md_init 209 = .ok (.bipush 20, 2) := by decide +kernel
set_option maxRecDepth 100000 in
theorem d_Md_init_211 : decode b_Md_init 211 = .ok (.newarray .int, 2) := by decide +kernel
set_option maxRecDepth 100000 in
theorem d_Md_init_213 : decode b_Md_init 213 = .ok (.putfield 116, 3) := by decide +kernel
set_option maxRecDepth 100000 in
theorem d_Md_init_216 : decode b_Md_init 216 = .ok (.aload_n 0, 1) := by decide +kernel
set_option maxRecDepth 100000 in
theorem d_Md_init_217 : decode b_Md_init 217 = .ok (.bipush 20, 2) := by decide +kernel
set_option maxRecDepth 100000 in
theorem d_Md_init_219 : decode b_Md_init 219 = .ok (.newarray .int, 2) := by decide +kernel
set_option maxRecDepth 100000 in
theorem d_Md_init_221 : decode b_Md_init 221 = .ok (.putfield 119, 3) := by decide +kernel
set_option maxRecDepth 100000 in
theorem d_Md_init_224 : decode b_Md_init 224 = .ok (.aload_n 0, 1) := by decide +kernel
set_option maxRecDepth 100000 in
theorem d_Md_init_225 : decode b_Md_init 225 = .ok (.sipush 240, 3) := by decide +kernel
set_option maxRecDepth 100000 in
theorem d_Md_init_228 : decode b_Md_init 228 = .ok (.newarray .int, 2) := by decide +kernel
set_option maxRecDepth 100000 in
theorem d_Md_init_230 : decode b_Md_init 230 = .ok (.putfield 122, 3) := by decide +kernel
set_option maxRecDepth 100000 in
theorem d_Md_init_233 : decode b_Md_init 233 = .ok (.aload_n 0, 1) := by decide +kernel
set_option maxRecDepth 100000 in
theorem d_Md_init_234 : decode b_Md_init 234 = .ok (.sipush 240, 3) := by decide +kernel
set_option maxRecDepth 100000 in
theorem d_Md_init_237 : decode b_Md_init 237 = .ok (.newarray .int, 2) := by decide +kernel
set_option maxRecDepth 100000 in
theorem d_Md_init_239 : decode b_Md_init 239 = .ok (.putfield 125, 3) := by decide +kernel
set_option maxRecDepth 100000 in
theorem d_Md_init_242 : decode b_Md_init 242 = .ok (.aload_n 0, 1) := by decide +kernel
set_option maxRecDepth 100000 in
theorem d_Md_init_243 : decode b_Md_init 243 = .ok (.sipush 240, 3) := by decide +kernel
set_option maxRecDepth 100000 in
theorem d_Md_init_246 : decode b_Md_init 246 = .ok (.newarray .int, 2) := by decide +kernel
set_option maxRecDepth 100000 in
theorem d_Md_init_248 : decode b_Md_init 248 = .ok (.putfield 128, 3) := by decide +kernel
set_option maxRecDepth 100000 in
theorem d_Md_init_251 : decode b_Md_init 251 = .ok (.aload_n 0, 1) := by decide +kernel
set_option maxRecDepth 100000 in
theorem d_Md_init_252 : decode b_Md_init 252 = .ok (.bipush 20, 2) := by decide +kernel
set_option maxRecDepth 100000 in
theorem d_Md_init_254 : decode b_Md_init 254 = .ok (.newarray .int, 2) := by decide +kernel
set_option maxRecDepth 100000 in
theorem d_Md_init_256 : decode b_Md_init 256 = .ok (.putfield 131, 3) := by decide +kernel
set_option maxRecDepth 100000 in
theorem d_Md_init_259 : decode b_Md_init 259 = .ok (.aload_n 0, 1) := by decide +kernel
set_option maxRecDepth 100000 in
theorem d_Md_init_260 : decode b_Md_init 260 = .ok (.sipush 240, 3) := by decide +kernel
set_option maxRecDepth 100000 in
theorem d_Md_init_263 : decode b_Md_init 263 = .ok (.newarray .int, 2) := by decide +kernel
set_option maxRecDepth 100000 in
theorem d_Md_init_265 : decode b_Md_init 265 = .ok (.putfield 134, 3) := by decide +kernel
set_option maxRecDepth 100000 in
theorem d_Md_init_268 : decode b_Md_init 268 = .ok (.aload_n 0, 1) := by decide +kernel
set_option maxRecDepth 100000 in
theorem d_Md_init_269 : decode b_Md_init 269 = .ok (.sipush 240, 3) := by decide +kernel
set_option maxRecDepth 100000 in
theorem d_Md_init_272 : decode b_Md_init 272 = .ok (.newarray .int, 2) := by decide +kernel
set_option maxRecDepth 100000 in
theorem d_Md_init_274 : decode b_Md_init 274 = .ok (.putfield 137, 3) := by decide +kernel
set_option maxRecDepth 100000 in
theorem d_Md_init_277 : decode b_Md_init 277 = .ok (.aload_n 0, 1) := by decide +kernel
set_option maxRecDepth 100000 in
theorem d_Md_init_278 : decode b_Md_init 278 = .ok (.sipush 240, 3) := by decide +kernel
set_option maxRecDepth 100000 in
theorem d_Md_init_281 : decode b_Md_init 281 = .ok (.newarray .int, 2) := by decide +kernel
set_option maxRecDepth 100000 in
theorem d_Md_init_283 : decode b_Md_init 283 = .ok (.putfield 140, 3) := by decide +kernel
set_option maxRecDepth 100000 in
theorem d_Md_init_286 : decode b_Md_init 286 = .ok (.aload_n 0, 1) := by decide +kernel
set_option maxRecDepth 100000 in
theorem d_Md_init_287 : decode b_Md_init 287 = .ok (.sipush 180, 3) := by decide +kernel
set_option maxRecDepth 100000 in
theorem d_Md_init_290 : decode b_Md_init 290 = .ok (.newarray .int, 2) := by decide +kernel
set_option maxRecDepth 100000 in
theorem d_Md_init_292 : decode b_Md_init 292 = .ok (.putfield 143, 3) := by decide +kernel
set_option maxRecDepth 100000 in
theorem d_Md_init_295 : decode b_Md_init 295 = .ok (.aload_n 0, 1) := by decide +kernel
set_option maxRecDepth 100000 in
theorem d_Md_init_296 : decode b_Md_init 296 = .ok (.bipush 20, 2) := by decide +kernel
set_option maxRecDepth 100000 in
theorem d_Md_init_298 : decode b_Md_init 298 = .ok (.newarray .int, 2) := by decide +kernel
set_option maxRecDepth 100000 in
theorem d_Md_init_300 : decode b_Md_init 300 = .ok (.putfield 146, 3) := by decide +kernel
set_option maxRecDepth 100000 in
theorem d_Md_init_303 : decode b_Md_init 303 = .ok (.aload_n 0, 1) := by decide +kernel
set_option maxRecDepth 100000 in
theorem d_Md_init_304 : decode b_Md_init 304 = .ok (.sipush 600, 3) := by decide +kernel
set_option maxRecDepth 100000 in
theorem d_Md_init_307 : decode b_Md_init 307 = .ok (.newarray .int, 2) := by decide +kernel
set_option maxRecDepth 100000 in
theorem d_Md_init_309 : decode b_Md_init 309 = .ok (.putfield 149, 3) := by decide +kernel
set_option maxRecDepth 100000 in
theorem d_Md_init_312 : decode b_Md_init 312 = .ok (.aload_n 0, 1) := by decide +kernel
set_option maxRecDepth 100000 in
theorem d_Md_init_313 : decode b_Md_init 313 = .ok (.sipush 600, 3) := by decide +kernel
set_option maxRecDepth 100000 in
theorem d_Md_init_316 : decode b_Md_init 316 = .ok (.newarray .int, 2) := by decide +kernel
set_option maxRecDepth 100000 in
theorem d_Md_init_318 : decode b_Md_init 318 = .ok (.putfield 152, 3) := by decide +kernel
set_option maxRecDepth 100000 in
theorem d_Md_init_321 : decode b_Md_init 321 = .ok (.aload_n 0, 1) := by decide +kernel
set_option maxRecDepth 100000 in
theorem d_Md_init_322 : decode b_Md_init 322 = .ok (.sipush 600, 3) := by decide +kernel
set_option maxRecDepth 100000 in
theorem d_Md_init_325 : decode b_Md_init 325 = .ok (.newarray .int, 2) := by decide +kernel
set_option maxRecDepth 100000 in
theorem d_Md_init_327 : decode b_Md_init 327 = .ok (.putfield 155, 3) := by decide +kernel
set_option maxRecDepth 100000 in
theorem d_Md_init_330 : decode b_Md_init 330 = .ok (.aload_n 0, 1) := by decide +kernel
set_option maxRecDepth 100000 in
theorem d_Md_init_331 : decode b_Md_init 331 = .ok (.sipush 600, 3) := by decide +kernel
set_option maxRecDepth 100000 in
theorem d_Md_init_334 : decode b_Md_init 334 = .ok (.newarray .int, 2) := by decide +kernel
set_option maxRecDepth 100000 in
theorem d_Md_init_336 : decode b_Md_init 336 = .ok (.putfield 158, 3) := by decide +kernel
set_option maxRecDepth 100000 in
theorem d_Md_init_339 : decode b_Md_init 339 = .ok (.aload_n 0, 1) := by decide +kernel
set_option maxRecDepth 100000 in
theorem d_Md_init_340 : decode b_Md_init 340 = .ok (.sipush 600, 3) := by decide +kernel
set_option maxRecDepth 100000 in
theorem d_Md_init_343 : decode b_Md_init 343 = .ok (.newarray .int, 2) := by decide +kernel
set_option maxRecDepth 100000 in
theorem d_Md_init_345 : decode b_Md_init 345 = .ok (.putfield 161, 3) := by decide +kernel
set_option maxRecDepth 100000 in
theorem d_Md_init_348 : decode b_Md_init 348 = .ok (.aload_n 0, 1) := by decide +kernel
set_option maxRecDepth 100000 in
theorem d_Md_init_349 : decode b_Md_init 349 = .ok (.sipush 600, 3) := by decide +kernel
set_option maxRecDepth 100000 in
theorem d_Md_init_352 : decode b_Md_init 352 = .ok (.newarray .int, 2) := by decide +kernel
set_option maxRecDepth 100000 in
theorem d_Md_init_354 : decode b_Md_init 354 = .ok (.putfield 164, 3) := by decide +kernel
set_option maxRecDepth 100000 in
theorem d_Md_init_357 : decode b_Md_init 357 = .ok (.aload_n 0, 1) := by decide +kernel
set_option maxRecDepth 100000 in
theorem d_Md_init_358 : decode b_Md_init 358 = .ok (.sipush 600, 3) := by decide +kernel
set_option maxRecDepth 100000 in
theorem d_Md_init_361 : decode b_Md_init 361 = .ok (.newarray .int, 2) := by decide +kernel
set_option maxRecDepth 100000 in
theorem d_Md_init_363 : decode b_Md_init 363 = .ok (.putfield 167, 3) := by decide +kernel
set_option maxRecDepth 100000 in
theorem d_Md_init_366 : decode b_Md_init 366 = .ok (.aload_n 0, 1) := by decide +kernel
set_option maxRecDepth 100000 in
theorem d_Md_init_367 : decode b_Md_init 367 = .ok (.sipush 600, 3) := by decide +kernel
set_option maxRecDepth 100000 in
theorem d_Md_init_370 : decode b_Md_init 370 = .ok (.newarray .boolean, 2) := by decide +kernel
set_option maxRecDepth 100000 in
theorem d_Md_init_372 : decode b_Md_init 372 = .ok (.putfield 170, 3) := by decide +kernel
set_option maxRecDepth 100000 in
theorem d_Md_init_375 : decode b_Md_init 375 = .ok (.aload_n 0, 1) := by decide +kernel
set_option maxRecDepth 100000 in
theorem d_Md_init_376 : decode b_Md_init 376 = .ok (.sipush 500, 3) := by decide +kernel
set_option maxRecDepth 100000 in
theorem d_Md_init_379 : decode b_Md_init 379 = .ok (.newarray .long, 2) := by decide +kernel
set_option maxRecDepth 100000 in
theorem d_Md_init_381 : decode b_Md_init 381 = .ok (.putfield 173, 3) := by decide +kernel
set_option maxRecDepth 100000 in
theorem d_Md_init_384 : decode b_Md_init 384 = .ok (.aload_n 0, 1) := by decide +kernel
set_option maxRecDepth 100000 in
theorem d_Md_init_385 : decode b_Md_init 385 = .ok (.bipush 30, 2) := by decide +kernel
set_option maxRecDepth 100000 in
theorem d_Md_init_387 : decode b_Md_init 387 = .ok (.newarray .int, 2) := by decide +kernel
set_option maxRecDepth 100000 in
theorem d_Md_init_389 : decode b_Md_init 389 = .ok (.putfield 177, 3) := by decide +kernel
set_option maxRecDepth 100000 in
theorem d_Md_init_392 : decode b_Md_init 392 = .ok (.aload_n 0, 1) := by decide +kernel
set_option maxRecDepth 100000 in
theorem d_Md_init_393 : decode b_Md_init 393 = .ok (.bipush 30, 2) := by decide +kernel
set_option maxRecDepth 100000 in
theorem d_Md_init_395 : decode b_Md_init 395 = .ok (.newarray .int, 2) := by decide +kernel
set_option maxRecDepth 100000 in
theorem d_Md_init_397 : decode b_Md_init 397 = .ok (.putfield 180, 3) := by decide +kernel
set_option maxRecDepth 100000 in
theorem d_Md_init_400 : decode b_Md_init 400 = .ok (.aload_n 0, 1) := by decide +kernel
set_option maxRecDepth 100000 in
theorem d_Md_init_401 : decode b_Md_init 401 = .ok (.bipush 30, 2) := by decide +kernel
set_option maxRecDepth 100000 in
theorem d_Md_init_403 : decode b_Md_init 403 = .ok (.newarray .int, 2) := by decide +kernel
set_option maxRecDepth 100000 in
theorem d_Md_init_405 : decode b_Md_init 405 = .ok (.putfield 183, 3) := by decide +kernel
set_option maxRecDepth 100000 in
theorem d_Md_init_408 : decode b_Md_init 408 = .ok (.iconst 0, 1) := by decide +kernel
set_option maxRecDepth 100000 in
theorem d_Md_init_409 : decode b_Md_init 409 = .ok (.istore_n 1, 1) := by decide +kernel
set_option maxRecDepth 100000 in
theorem d_Md_init_410 : decode b_Md_init 410 = .ok (.iload_n 1, 1) := by decide +kernel
set_option maxRecDepth 100000 in
theorem d_Md_init_411 : decode b_Md_init 411 = .ok (.bipush 40, 2) := by decide +kernel
set_option maxRecDepth 100000 in
theorem d_Md_init_413 : decode b_Md_init 413 = .ok (.if_icmp .ge 23, 3) := by decide +kernel
set_option maxRecDepth 100000 in
theorem d_Md_init_416 : decode b_Md_init 416 = .ok (.aload_n 0, 1) := by decide +kernel
set_option maxRecDepth 100000 in
theorem d_Md_init_417 : decode b_Md_init 417 = .ok (.getfield 61, 3) := by decide +kernel
set_option maxRecDepth 100000 in
theorem d_Md_init_420 : decode b_Md_init 420 = .ok (.iload_n 1, 1) := by decide +kernel
set_option maxRecDepth 100000 in
theorem d_Md_init_421 : decode b_Md_init 421 = .ok (.iconst (-1), 1) := by decide +kernel
set_option maxRecDepth 100000 in
theorem d_Md_init_422 : decode b_Md_init 422 = .ok (.iastore, 1) := by decide +kernel
set_option maxRecDepth 100000 in
theorem d_Md_init_423 : decode b_Md_init 423 = .ok (.aload_n 0, 1) := by decide +kernel
set_option maxRecDepth 100000 in
theorem d_Md_init_424 : decode b_Md_init 424 = .ok (.getfield 79, 3) := by decide +kernel
set_option maxRecDepth 100000 in
theorem d_Md_init_427 : decode b_Md_init 427 = .ok (.iload_n 1, 1) := by decide +kernel
set_option maxRecDepth 100000 in
theorem d_Md_init_428 : decode b_Md_init 428 = .ok (.iconst (-1), 1) := by decide +kernel
set_option maxRecDepth 100000 in
theorem d_Md_init_429 : decode b_Md_init 429 = .ok (.iastore, 1) := by decide +kernel
set_option maxRecDepth 100000 in
theorem d_Md_init_430 : decode b_Md_init 430 = .ok (.iinc 1 1, 3) := by decide +kernel
set_option maxRecDepth 100000 in
theorem d_Md_init_433 : decode b_Md_init 433 = .ok (.goto (-23), 3) := by decide +kernel
set_option maxRecDepth 100000 in
theorem d_Md_init_436 : decode b_Md_init 436 = .ok (.return_, 1) := by decide +kernel
set_option maxRecDepth 100000 in
theorem d_Md_isAsked_0 : decode b_Md_isAsked 0 = .ok (.aload_n 0, 1) := by decide +kernel
set_option maxRecDepth 100000 in
theorem d_Md_isAsked_1 : decode b_Md_isAsked 1 = .ok (.iload_n 1, 1) := by decide +kernel
set_option maxRecDepth 100000 in
theorem d_Md_isAsked_2 : decode b_Md_isAsked 2 = .ok (.invokevirtual 209, 3) := by decide +kernel
set_option maxRecDepth 100000 in
theorem d_Md_isAsked_5 : decode b_Md_isAsked 5 = .ok (.ifCond .eq 41, 3) := by decide +kernel
set_option maxRecDepth 100000 in
theorem d_Md_isAsked_46 : decode b_Md_isAsked 46 = .ok (.iconst 0, 1) := by decide +kernel
set_option maxRecDepth 100000 in
theorem d_Md_isAsked_47 : decode b_Md_isAsked 47 = .ok (.ireturn, 1) := by decide +kernel
set_option maxRecDepth 100000 in
theorem d_Md_isBoat_0 : decode b_Md_isBoat 0 = .ok (.iload_n 1, 1) := by decide +kernel
set_option maxRecDepth 100000 in
theorem d_Md_isBoat_1 : decode b_Md_isBoat 1 = .ok (.iconst 0, 1) := by decide +kernel
set_option maxRecDepth 100000 in
theorem d_Md_isBoat_2 : decode b_Md_isBoat 2 = .ok (.aload_n 0, 1) := by decide +kernel
set_option maxRecDepth 100000 in
theorem d_Md_isBoat_3 : decode b_Md_isBoat 3 = .ok (.getfield 206, 3) := by decide +kernel
set_option maxRecDepth 100000 in
theorem d_Md_isBoat_6 : decode b_Md_isBoat 6 = .ok (.iconst 1, 1) := by decide +kernel
set_option maxRecDepth 100000 in
theorem d_Md_isBoat_7 : decode b_Md_isBoat 7 = .ok (.isub, 1) := by decide +kernel
set_option maxRecDepth 100000 in
theorem d_Md_isBoat_8 : decode b_Md_isBoat 8 = .ok (.invokestatic 10, 3) := by decide +kernel
set_option maxRecDepth 100000 in
theorem d_Md_isBoat_11 : decode b_Md_isBoat 11 = .ok (.ireturn, 1) := by decide +kernel
set_option maxRecDepth 100000 in
theorem d_Md_isDay_0 : decode b_Md_isDay 0 = .ok (.iload_n 0, 1) := by decide +kernel
set_option maxRecDepth 100000 in
theorem d_Md_isDay_1 : decode b_Md_isDay 1 = .ok (.iconst 0, 1) := by decide +kernel
set_option maxRecDepth 100000 in
theorem d_Md_isDay_2 : decode b_Md_isDay 2 = .ok (.sipush 499, 3) := by decide +kernel
set_option maxRecDepth 100000 in
theorem d_Md_isDay_5 : decode b_Md_isDay 5 = .ok (.invokestatic 10, 3) := by decide +kernel
set_option maxRecDepth 100000 in
theorem d_Md_isDay_8 : decode b_Md_isDay 8 = .ok (.ireturn, 1) := by decide +kernel
set_option maxRecDepth 100000 in
theorem d_Md_isMan_0 : decode b_Md_isMan 0 = .ok (.iload_n 0, 1) := by decide +kernel
set_option maxRecDepth 100000 in
theorem d_Md_isMan_1 : decode b_Md_isMan 1 = .ok (.iconst 0, 1) := by decide +kernel
set_option maxRecDepth 100000 in
theorem d_Md_isMan_2 : decode b_Md_isMan 2 = .ok (.bipush 39, 2) := by decide +kernel
set_option maxRecDepth 100000 in
theorem d_Md_isMan_4 : decode b_Md_isMan 4 = .ok (.invokestatic 10, 3) := by decide +kernel
set_option maxRecDepth 100000 in
theorem d_Md_isMan_7 : decode b_Md_isMan 7 = .ok (.ireturn, 1) := by decide +kernel
set_option maxRecDepth 100000 in
theorem d_Md_isPension_0 : decode b_Md_isPension 0 = .ok (.iload_n 0, 1) := by decide +kernel
set_option maxRecDepth 100000 in
theorem d_Md_isPension_1 : decode b_Md_isPension 1 = .ok (.iconst 1, 1) := by decide +kernel
set_option maxRecDepth 100000 in
theorem d_Md_isPension_2 : decode b_Md_isPension 2 = .ok (.sipush 10000, 3) := by decide +kernel
set_option maxRecDepth 100000 in
theorem d_Md_isPension_5 : decode b_Md_isPension 5 = .ok (.invokestatic 10, 3) := by decide +kernel
set_option maxRecDepth 100000 in
theorem d_Md_isPension_8 : decode b_Md_isPension 8 = .ok (.ifCond .eq 18, 3) := by decide +kernel
set_option maxRecDepth 100000 in
theorem d_Md_isPension_11 : decode b_Md_isPension 11 = .ok (.iload_n 1, 1) := by decide +kernel
set_option maxRecDepth 100000 in
theorem d_Md_isPension_12 : decode b_Md_isPension 12 = .ok (.iconst 0, 1) := by decide +kernel
set_option maxRecDepth 100000 in
theorem d_Md_isPension_13 : decode b_Md_isPension 13 = .ok (.sipush 9999, 3) := by decide +kernel
set_option maxRecDepth 100000 in
theorem d_Md_isPension_16 : decode b_Md_isPension 16 = .ok (.invokestatic 10, 3) := by decide +kernel
set_option maxRecDepth 100000 in
theorem d_Md_isPension_19 : decode b_Md_isPension 19 = .ok (.ifCond .eq 7, 3) := by decide +kernel
set_option maxRecDepth 100000 in
theorem d_Md_isPension_22 : decode b_Md_isPension 22 = .ok (.iconst 1, 1) := by decide +kernel
set_option maxRecDepth 100000 in
theorem d_Md_isPension_23 : decode b_Md_isPension 23 = .ok (.goto 4, 3) := by decide +kernel
set_option maxRecDepth 100000 in
theorem d_Md_isPension_26 : decode b_Md_isPension 26 = .ok (.iconst 0, 1) := by decide +kernel
set_option maxRecDepth 100000 in
theorem d_Md_isPension_27 : decode b_Md_isPension 27 = .ok (.ireturn, 1) := by decide +kernel
set_option maxRecDepth 100000 in
theorem d_Md_isStairs_0 : decode b_Md_isStairs 0 = .ok (.iload_n 1, 1) := by decide +kernel
set_option maxRecDepth 100000 in
theorem d_Md_isStairs_1 : decode b_Md_isStairs 1 = .ok (.iconst 0, 1) := by decide +kernel
set_option maxRecDepth 100000 in
theorem d_Md_isStairs_2 : decode b_Md_isStairs 2 = .ok (.aload_n 0, 1) := by decide +kernel
set_option maxRecDepth 100000 in
theorem d_Md_isStairs_3 : decode b_Md_isStairs 3 = .ok (.getfield 14, 3) := by decide +kernel
set_option maxRecDepth 100000 in
theorem d_Md_isStairs_6 : decode b_Md_isStairs 6 = .ok (.iconst 1, 1) := by decide +kernel
set_option maxRecDepth 100000 in
theorem d_Md_isStairs_7 : decode b_Md_isStairs 7 = .ok (.isub, 1) := by decide +kernel
set_option maxRecDepth 100000 in
theorem d_Md_isStairs_8 : decode b_Md_isStairs 8 = .ok (.invokestatic 10, 3) := by decide +kernel
set_option maxRecDepth 100000 in
theorem d_Md_isStairs_11 : decode b_Md_isStairs 11 = .ok (.ireturn, 1) := by decide +kernel
set_option maxRecDepth 100000 in
theorem d_Md_join_0 : decode b_Md_join 0 = .ok (.aload_n 0, 1) := by decide +kernel
set_option maxRecDepth 100000 in
theorem d_Md_join_1 : decode b_Md_join 1 = .ok (.iload_n 1, 1) := by decide +kernel
set_option maxRecDepth 100000 in
theorem d_Md_join_2 : decode b_Md_join 2 = .ok (.invokevirtual 199, 3) := by decide +kernel
set_option maxRecDepth 100000 in
theorem d_Md_join_5 : decode b_Md_join 5 = .ok (.ifCond .eq 10, 3) := by decide +kernel
set_option maxRecDepth 100000 in
theorem d_Md_join_15 : decode b_Md_join 15 = .ok (.iconst (-1), 1) := by decide +kernel
set_option maxRecDepth 100000 in
theorem d_Md_join_16 : decode b_Md_join 16 = .ok (.ireturn, 1) := by decide +kernel
set_option maxRecDepth 100000 in
theorem d_Md_leave_0 : decode b_Md_leave 0 = .ok (.iload_n 1, 1) := by decide +kernel
set_option maxRecDepth 100000 in
theorem d_Md_leave_1 : decode b_Md_leave 1 = .ok (.invokestatic 186, 3) := by decide +kernel
set_option maxRecDepth 100000 in
theorem d_Md_leave_4 : decode b_Md_leave 4 = .ok (.ifCond .ne 5, 3) := by decide +kernel
set_option maxRecDepth 100000 in
theorem d_Md_leave_7 : decode b_Md_leave 7 = .ok (.iconst (-1), 1) := by decide +kernel
set_option maxRecDepth 100000 in
theorem d_Md_leave_8 : decode b_Md_leave 8 = .ok (.ireturn, 1) := by decide +kernel
set_option maxRecDepth 100000 in
theorem d_Md_leave_9 : decode b_Md_leave 9 = .ok (.aload_n 0, 1) := by decide +kernel
set_option maxRecDepth 100000 in
theorem d_Md_leave_10 : decode b_Md_leave 10 = .ok (.iload_n 1, 1) := by decide +kernel
set_option maxRecDepth 100000 in
theorem d_Md_leave_11 : decode b_Md_leave 11 = .ok (.invokevirtual 193, 3) := by decide +kernel
set_option maxRecDepth 100000 in
theorem d_Md_leave_14 : decode b_Md_leave 14 = .ok (.ifCond .ge 6, 3) := by decide +kernel
set_option maxRecDepth 100000 in
theorem d_Md_leave_17 : decode b_Md_leave 17 = .ok (.bipush (-2), 2) := by decide +kernel
set_option maxRecDepth 100000 in
theorem d_Md_leave_19 : decode b_Md_leave 19 = .ok (.ireturn, 1) := by decide +kernel
set_option maxRecDepth 100000 in
theorem d_Md_level_0 : decode b_Md_level 0 = .ok (.iload_n 1, 1) := by decide +kernel
set_option maxRecDepth 100000 in
theorem d_Md_level_1 : decode b_Md_level 1 = .ok (.invokestatic 38, 3) := by decide +kernel
set_option maxRecDepth 100000 in
theorem d_Md_level_4 : decode b_Md_level 4 = .ok (.ifCond .eq 24, 3) := by decide +kernel
set_option maxRecDepth 100000 in
theorem d_Md_level_7 : decode b_Md_level 7 = .ok (.iload_n 2, 1) := by decide +kernel
set_option maxRecDepth 100000 in
theorem d_Md_level_8 : decode b_Md_level 8 = .ok (.iconst 0, 1) := by decide +kernel
set_option maxRecDepth 100000 in
theorem d_Md_level_9 : decode b_Md_level 9 = .ok (.bipush 11, 2) := by decide +kernel
set_option maxRecDepth 100000 in
theorem d_Md_level_11 : decode b_Md_level 11 = .ok (.invokestatic 10, 3) := by decide +kernel
set_option maxRecDepth 100000 in
theorem d_Md_level_14 : decode b_Md_level 14 = .ok (.ifCond .eq 14, 3) := by decide +kernel
set_option maxRecDepth 100000 in
theorem d_Md_level_17 : decode b_Md_level 17 = .ok (.iload_n 3, 1) := by decide +kernel
set_option maxRecDepth 100000 in
theorem d_Md_level_18 : decode b_Md_level 18 = .ok (.bipush (-90), 2) := by decide +kernel
set_option maxRecDepth 100000 in
theorem d_Md_level_20 : decode b_Md_level 20 = .ok (.bipush 90, 2) := by decide +kernel
set_option maxRecDepth 100000 in
theorem d_Md_level_22 : decode b_Md_level 22 = .ok (.invokestatic 10, 3) := by decide +kernel
set_option maxRecDepth 100000 in
theorem d_Md_level_25 : decode b_Md_level 25 = .ok (.ifCond .ne 5, 3) := by decide +kernel
set_option maxRecDepth 100000 in
theorem d_Md_level_28 : decode b_Md_level 28 = .ok (.iconst (-1), 1) := by decide +kernel
set_option maxRecDepth 100000 in
theorem d_Md_level_29 : decode b_Md_level 29 = .ok (.ireturn, 1) := by decide +kernel
set_option maxRecDepth 100000 in
theorem d_Md_level_30 : decode b_Md_level 30 = .ok (.iconst 0, 1) := by decide +kernel
set_option maxRecDepth 100000 in
theorem d_Md_level_31 : decode b_Md_level 31 = .ok (.istore 4, 2) := by decide +kernel
set_option maxRecDepth 100000 in
theorem d_Md_level_33 : decode b_Md_level 33 = .ok (.iload 4, 2) := by decide +kernel
set_option maxRecDepth 100000 in
theorem d_Md_level_35 : decode b_Md_level 35 = .ok (.bipush 12, 2) := by decide +kernel
set_option maxRecDepth 100000 in
theorem d_Md_level_37 : decode b_Md_level 37 = .ok (.if_icmp .ge 42, 3) := by decide +kernel
set_option maxRecDepth 100000 in
theorem d_Md_level_40 : decode b_Md_level 40 = .ok (.aload_n 0, 1) := by decide +kernel
set_option maxRecDepth 100000 in
theorem d_Md_level_41 : decode b_Md_level 41 = .ok (.getfield 17, 3) := by decide +kernel
set_option maxRecDepth 100000 in
theorem d_Md_level_44 : decode b_Md_level 44 = .ok (.iload_n 1, 1) := by decide +kernel
set_option maxRecDepth 100000 in
theorem d_Md_level_45 : decode b_Md_level 45 = .ok (.baload, 1) := by decide +kernel
set_option maxRecDepth 100000 in
theorem d_Md_level_46 : decode b_Md_level 46 = .ok (.ifCond .ne 33, 3) := by decide +kernel
set_option maxRecDepth 100000 in
theorem d_Md_level_49 : decode b_Md_level 49 = .ok (.aload_n 0, 1) := by decide +kernel
set_option maxRecDepth 100000 in
theorem d_Md_level_50 : decode b_Md_level 50 = .ok (.getfield 21, 3) := by decide +kernel
set_option maxRecDepth 100000 in
theorem d_Md_level_53 : decode b_Md_level 53 = .ok (.bipush 12, 2) := by decide +kernel
set_option maxRecDepth 100000 in
theorem d_Md_level_55 : decode b_Md_level 55 = .ok (.iload_n 1, 1) := by decide +kernel
set_option maxRecDepth 100000 in
theorem d_Md_level_56 : decode b_Md_level 56 = .ok (.imul, 1) := by decide +kernel
set_option maxRecDepth 100000 in
theorem d_Md_level_57 : decode b_Md_level 57 = .ok (.iload 4, 2) := by decide +kernel
set_option maxRecDepth 100000 in
theorem d_Md_level_59 : decode b_Md_level 59 = .ok (.iadd, 1) := by decide +kernel
set_option maxRecDepth 100000 in
theorem d_Md_level_60 : decode b_Md_level 60 = .ok (.aload_n 0, 1) := by decide +kernel
set_option maxRecDepth 100000 in
theorem d_Md_level_61 : decode b_Md_level 61 = .ok (.getfield 25, 3) := by decide +kernel
set_option maxRecDepth 100000 in
theorem d_Md_level_64 : decode b_Md_level 64 = .ok (.iload 4, 2) := by decide +kernel
set_option maxRecDepth 100000 in
theorem d_Md_level_66 : decode b_Md_level 66 = .ok (.iload_n 1, 1) := by decide +kernel
set_option maxRecDepth 100000 in
theorem d_Md_level_67 : decode b_Md_level 67 = .ok (.iadd, 1) := by decide +kernel
set_option maxRecDepth 100000 in
theorem d_Md_level_68 : decode b_Md_level 68 = .ok (.bipush 12, 2) := by decide +kernel
set_option maxRecDepth 100000 in
theorem d_Md_level_70 : decode b_Md_level 70 = .ok (.irem, 1) := by decide +kernel
set_option maxRecDepth 100000 in
theorem d_Md_level_71 : decode b_Md_level 71 = .ok (.iaload, 1) := by decide +kernel
set_option maxRecDepth 100000 in
theorem d_Md_level_72 : decode b_Md_level 72 = .ok (.iastore, 1) := by decide +kernel
set_option maxRecDepth 100000 in
theorem d_Md_level_73 : decode b_Md_level 73 = .ok (.iinc 4 1, 3) := by decide +kernel
set_option maxRecDepth 100000 in
theorem d_Md_level_76 : decode b_Md_level 76 = .ok (.goto (-43), 3) := by decide +kernel
set_option maxRecDepth 100000 in
theorem d_Md_level_79 : decode b_Md_level 79 = .ok (.aload_n 0, 1) := by decide +kernel
set_option maxRecDepth 100000 in
theorem d_Md_level_80 : decode b_Md_level 80 = .ok (.getfield 17, 3) := by decide +kernel
set_option maxRecDepth 100000 in
theorem d_Md_level_83 : decode b_Md_level 83 = .ok (.iload_n 1, 1) := by decide +kernel
set_option maxRecDepth 100000 in
theorem d_Md_level_84 : decode b_Md_level 84 = .ok (.iconst 1, 1) := by decide +kernel
set_option maxRecDepth 100000 in
theorem d_Md_level_85 : decode b_Md_level 85 = .ok (.bastore, 1) := by decide +kernel
set_option maxRecDepth 100000 in
theorem d_Md_level_86 : decode b_Md_level 86 = .ok (.aload_n 0, 1) := by decide +kernel
set_option maxRecDepth 100000 in
theorem d_Md_level_87 : decode b_Md_level 87 = .ok (.getfield 21, 3) := by decide +kernel
set_option maxRecDepth 100000 in
theorem d_Md_level_90 : decode b_Md_level 90 = .ok (.bipush 12, 2) := by decide +kernel
set_option maxRecDepth 100000 in
theorem d_Md_level_92 : decode b_Md_level 92 = .ok (.iload_n 1, 1) := by decide +kernel
set_option maxRecDepth 100000 in
theorem d_Md_level_93 : decode b_Md_level 93 = .ok (.imul, 1) := by decide +kernel
set_option maxRecDepth 100000 in
theorem d_Md_level_94 : decode b_Md_level 94 = .ok (.iload_n 2, 1) := by decide +kernel
set_option maxRecDepth 100000 in
theorem d_Md_level_95 : decode b_Md_level 95 = .ok (.iadd, 1) := by decide +kernel
set_option maxRecDepth 100000 in
theorem d_Md_level_96 : decode b_Md_level 96 = .ok (.iload_n 3, 1) := by decide +kernel
set_option maxRecDepth 100000 in
theorem d_Md_level_97 : decode b_Md_level 97 = .ok (.iastore, 1) := by decide +kernel
set_option maxRecDepth 100000 in
theorem d_Md_level_98 : decode b_Md_level 98 = .ok (.iconst 1, 1) := by decide +kernel
set_option maxRecDepth 100000 in
theorem d_Md_level_99 : decode b_Md_level 99 = .ok (.ireturn, 1) := by decide +kernel
set_option maxRecDepth 100000 in
theorem d_Md_levelOf_0 : decode b_Md_levelOf 0 = .ok (.iload_n 1, 1) := by decide +kernel
set_option maxRecDepth 100000 in
theorem d_Md_levelOf_1 : decode b_Md_levelOf 1 = .ok (.sipush 500, 3) := by decide +kernel
set_option maxRecDepth 100000 in
theorem d_Md_levelOf_4 : decode b_Md_levelOf 4 = .ok (.if_icmp .ge 26, 3) := by decide +kernel
set_option maxRecDepth 100000 in
theorem d_Md_levelOf_7 : decode b_Md_levelOf 7 = .ok (.aload_n 0, 1) := by decide +kernel
set_option maxRecDepth 100000 in
theorem d_Md_levelOf_8 : decode b_Md_levelOf 8 = .ok (.getfield 17, 3) := by decide +kernel
set_option maxRecDepth 100000 in
theorem d_Md_levelOf_11 : decode b_Md_levelOf 11 = .ok (.iload_n 1, 1) := by decide +kernel
set_option maxRecDepth 100000 in
theorem d_Md_levelOf_12 : decode b_Md_levelOf 12 = .ok (.baload, 1) := by decide +kernel
set_option maxRecDepth 100000 in
theorem d_Md_levelOf_13 : decode b_Md_levelOf 13 = .ok (.ifCond .eq 17, 3) := by decide +kernel
set_option maxRecDepth 100000 in
theorem d_Md_levelOf_30 : decode b_Md_levelOf 30 = .ok (.aload_n 0, 1) := by decide +kernel
set_option maxRecDepth 100000 in
theorem d_Md_levelOf_31 : decode b_Md_levelOf 31 = .ok (.getfield 25, 3) := by decide +kernel
set_option maxRecDepth 100000 in
theorem d_Md_levelOf_34 : decode b_Md_levelOf 34 = .ok (.iload_n 2, 1) := by decide +kernel
set_option maxRecDepth 100000 in
theorem d_Md_levelOf_35 : decode b_Md_levelOf 35 = .ok (.iload_n 1, 1) := by decide +kernel
set_option maxRecDepth 100000 in
theorem d_Md_levelOf_36 : decode b_Md_levelOf 36 = .ok (.iadd, 1) := by decide +kernel
set_option maxRecDepth 100000 in
theorem d_Md_levelOf_37 : decode b_Md_levelOf 37 = .ok (.bipush 12, 2) := by decide +kernel
set_option maxRecDepth 100000 in
theorem d_Md_levelOf_39 : decode b_Md_levelOf 39 = .ok (.irem, 1) := by decide +kernel
set_option maxRecDepth 100000 in
theorem d_Md_levelOf_40 : decode b_Md_levelOf 40 = .ok (.iaload, 1) := by decide +kernel
set_option maxRecDepth 100000 in
theorem d_Md_levelOf_41 : decode b_Md_levelOf 41 = .ok (.ireturn, 1) := by decide +kernel
set_option maxRecDepth 100000 in
theorem d_Md_line_0 : decode b_Md_line 0 = .ok (.aload_n 0, 1) := by decide +kernel
set_option maxRecDepth 100000 in
theorem d_Md_line_1 : decode b_Md_line 1 = .ok (.getfield 224, 3) := by decide +kernel
set_option maxRecDepth 100000 in
theorem d_Md_line_4 : decode b_Md_line 4 = .ok (.istore_n 2, 1) := by decide +kernel
set_option maxRecDepth 100000 in
theorem d_Md_line_5 : decode b_Md_line 5 = .ok (.iload_n 2, 1) := by decide +kernel
set_option maxRecDepth 100000 in
theorem d_Md_line_6 : decode b_Md_line 6 = .ok (.bipush 10, 2) := by decide +kernel
set_option maxRecDepth 100000 in
theorem d_Md_line_8 : decode b_Md_line 8 = .ok (.if_icmp .ge 5, 3) := by decide +kernel
set_option maxRecDepth 100000 in
theorem d_Md_line_11 : decode b_Md_line 11 = .ok (.iconst 0, 1) := by decide +kernel
set_option maxRecDepth 100000 in
theorem d_Md_line_12 : decode b_Md_line 12 = .ok (.ireturn, 1) := by decide +kernel
set_option maxRecDepth 100000 in
theorem d_Md_man_0 : decode b_Md_man 0 = .ok (.iload_n 1, 1) := by decide +kernel
set_option maxRecDepth 100000 in
theorem d_Md_man_1 : decode b_Md_man 1 = .ok (.invokestatic 186, 3) := by decide +kernel
set_option maxRecDepth 100000 in
theorem d_Md_man_4 : decode b_Md_man 4 = .ok (.ifCond .ne 6, 3) := by decide +kernel
set_option maxRecDepth 100000 in
theorem d_Md_man_7 : decode b_Md_man 7 = .ok (.bipush (-2), 2) := by decide +kernel
set_option maxRecDepth 100000 in
theorem d_Md_man_9 : decode b_Md_man 9 = .ok (.ireturn, 1) := by decide +kernel
set_option maxRecDepth 100000 in
theorem d_Md_man_10 : decode b_Md_man 10 = .ok (.iload_n 2, 1) := by decide +kernel
set_option maxRecDepth 100000 in
theorem d_Md_man_11 : decode b_Md_man 11 = .ok (.tableswitch 96 0 6 #[41, 48, 55, 61, 67, 74, 89], 41) := by decide +kernel
set_option maxRecDepth 100000 in
theorem d_Md_man_52 : decode b_Md_man 52 = .ok (.aload_n 0, 1) := by decide +kernel
set_option maxRecDepth 100000 in
theorem d_Md_man_53 : decode b_Md_man 53 = .ok (.getfield 58, 3) := by decide +kernel
set_option maxRecDepth 100000 in
theorem d_Md_man_56 : decode b_Md_man 56 = .ok (.iload_n 1, 1) := by decide +kernel
set_option maxRecDepth 100000 in
theorem d_Md_man_57 : decode b_Md_man 57 = .ok (.iaload, 1) := by decide +kernel
set_option maxRecDepth 100000 in
theorem d_Md_man_58 : decode b_Md_man 58 = .ok (.ireturn, 1) := by decide +kernel
set_option maxRecDepth 100000 in
theorem d_Md_man_59 : decode b_Md_man 59 = .ok (.aload_n 0, 1) := by decide +kernel
set_option maxRecDepth 100000 in
theorem d_Md_man_60 : decode b_Md_man 60 = .ok (.getfield 61, 3) := by decide +kernel
set_option maxRecDepth 100000 in
theorem d_Md_man_63 : decode b_Md_man 63 = .ok (.iload_n 1, 1) := by decide +kernel
set_option maxRecDepth 100000 in
theorem d_Md_man_64 : decode b_Md_man 64 = .ok (.iaload, 1) := by decide +kernel
set_option maxRecDepth 100000 in
theorem d_Md_man_65 : decode b_Md_man 65 = .ok (.ireturn, 1) := by decide +kernel
set_option maxRecDepth 100000 in
theorem d_Md_man_66 : decode b_Md_man 66 = .ok (.aload_n 0, 1) := by decide +kernel
set_option maxRecDepth 100000 in
theorem d_Md_man_67 : decode b_Md_man 67 = .ok (.iload_n 1, 1) := by decide +kernel
set_option maxRecDepth 100000 in
theorem d_Md_man_68 : decode b_Md_man 68 = .ok (.invokevirtual 193, 3) := by decide +kernel
set_option maxRecDepth 100000 in
theorem d_Md_man_71 : decode b_Md_man 71 = .ok (.ireturn, 1) := by decide +kernel
set_option maxRecDepth 100000 in
theorem d_Md_man_72 : decode b_Md_man 72 = .ok (.aload_n 0, 1) := by decide +kernel
set_option maxRecDepth 100000 in
theorem d_Md_man_73 : decode b_Md_man 73 = .ok (.iload_n 1, 1) := by decide +kernel
set_option maxRecDepth 100000 in
theorem d_Md_man_74 : decode b_Md_man 74 = .ok (.invokevirtual 196, 3) := by decide +kernel
set_option maxRecDepth 100000 in
theorem d_Md_man_77 : decode b_Md_man 77 = .ok (.ireturn, 1) := by decide +kernel
set_option maxRecDepth 100000 in
theorem d_Md_man_78 : decode b_Md_man 78 = .ok (.aload_n 0, 1) := by decide +kernel
set_option maxRecDepth 100000 in
theorem d_Md_man_79 : decode b_Md_man 79 = .ok (.getfield 76, 3) := by decide +kernel
set_option maxRecDepth 100000 in
theorem d_Md_man_82 : decode b_Md_man 82 = .ok (.iload_n 1, 1) := by decide +kernel
set_option maxRecDepth 100000 in
theorem d_Md_man_83 : decode b_Md_man 83 = .ok (.iaload, 1) := by decide +kernel
set_option maxRecDepth 100000 in
theorem d_Md_man_84 : decode b_Md_man 84 = .ok (.ireturn, 1) := by decide +kernel
set_option maxRecDepth 100000 in
theorem d_Md_man_85 : decode b_Md_man 85 = .ok (.aload_n 0, 1) := by decide +kernel
set_option maxRecDepth 100000 in
theorem d_Md_man_86 : decode b_Md_man 86 = .ok (.getfield 79, 3) := by decide +kernel
set_option maxRecDepth 100000 in
theorem d_Md_man_89 : decode b_Md_man 89 = .ok (.iload_n 1, 1) := by decide +kernel
set_option maxRecDepth 100000 in
theorem d_Md_man_90 : decode b_Md_man 90 = .ok (.iaload, 1) := by decide +kernel
set_option maxRecDepth 100000 in
theorem d_Md_man_91 : decode b_Md_man 91 = .ok (.ifCond .lt 7, 3) := by decide +kernel
set_option maxRecDepth 100000 in
theorem d_Md_man_98 : decode b_Md_man 98 = .ok (.iconst 0, 1) := by decide +kernel
set_option maxRecDepth 100000 in
theorem d_Md_man_99 : decode b_Md_man 99 = .ok (.ireturn, 1) := by decide +kernel
set_option maxRecDepth 100000 in
theorem d_Md_man_100 : decode b_Md_man 100 = .ok (.aload_n 0, 1) := by decide +kernel
set_option maxRecDepth 100000 in
theorem d_Md_man_101 : decode b_Md_man 101 = .ok (.getfield 82, 3) := by decide +kernel
set_option maxRecDepth 100000 in
theorem d_Md_man_104 : decode b_Md_man 104 = .ok (.iload_n 1, 1) := by decide +kernel
set_option maxRecDepth 100000 in
theorem d_Md_man_105 : decode b_Md_man 105 = .ok (.iaload, 1) := by decide +kernel
set_option maxRecDepth 100000 in
theorem d_Md_man_106 : decode b_Md_man 106 = .ok (.ireturn, 1) := by decide +kernel
set_option maxRecDepth 100000 in
theorem d_Md_man_107 : decode b_Md_man 107 = .ok (.bipush (-2), 2) := by decide +kernel
set_option maxRecDepth 100000 in
theorem d_Md_man_109 : decode b_Md_man 109 = .ok (.ireturn, 1) := by decide +kernel
set_option maxRecDepth 100000 in
theorem d_Md_menAs_0 : decode b_Md_menAs 0 = .ok (.iconst 0, 1) := by decide +kernel
set_option maxRecDepth 100000 in
theorem d_Md_menAs_1 : decode b_Md_menAs 1 = .ok (.istore_n 2, 1) := by decide +kernel
set_option maxRecDepth 100000 in
theorem d_Md_menAs_2 : decode b_Md_menAs 2 = .ok (.iconst 0, 1) := by decide +kernel
set_option maxRecDepth 100000 in
theorem d_Md_menAs_3 : decode b_Md_menAs 3 = .ok (.istore_n 3, 1) := by decide +kernel
set_option maxRecDepth 100000 in
theorem d_Md_menAs_4 : decode b_Md_menAs 4 = .ok (.iload_n 3, 1) := by decide +kernel
set_option maxRecDepth 100000 in
theorem d_Md_menAs_5 : decode b_Md_menAs 5 = .ok (.bipush 40, 2) := by decide +kernel
set_option maxRecDepth 100000 in
theorem d_Md_menAs_7 : decode b_Md_menAs 7 = .ok (.if_icmp .ge 27, 3) := by decide +kernel
set_option maxRecDepth 100000 in
theorem d_Md_menAs_10 : decode b_Md_menAs 10 = .ok (.iload_n 2, 1) := by decide +kernel
set_option maxRecDepth 100000 in
theorem d_Md_menAs_11 : decode b_Md_menAs 11 = .ok (.aload_n 0, 1) := by decide +kernel
set_option maxRecDepth 100000 in
theorem d_Md_menAs_12 : decode b_Md_menAs 12 = .ok (.getfield 58, 3) := by decide +kernel
set_option maxRecDepth 100000 in
theorem d_Md_menAs_15 : decode b_Md_menAs 15 = .ok (.iload_n 3, 1) := by decide +kernel
set_option maxRecDepth 100000 in
theorem d_Md_menAs_16 : decode b_Md_menAs 16 = .ok (.iaload, 1) := by decide +kernel
set_option maxRecDepth 100000 in
theorem d_Md_menAs_17 : decode b_Md_menAs 17 = .ok (.iload_n 1, 1) := by decide +kernel
set_option maxRecDepth 100000 in
theorem d_Md_menAs_18 : decode b_Md_menAs 18 = .ok (.if_icmp .ne 7, 3) := by decide +kernel
set_option maxRecDepth 100000 in
theorem d_Md_menAs_21 : decode b_Md_menAs 21 = .ok (.iconst 1, 1) := by decide +kernel
set_option maxRecDepth 100000 in
theorem d_Md_menAs_22 : decode b_Md_menAs 22 = .ok (.goto 4, 3) := by decide +kernel
set_option maxRecDepth 100000 in
theorem d_Md_menAs_25 : decode b_Md_menAs 25 = .ok (.iconst 0, 1) := by decide +kernel
set_option maxRecDepth 100000 in
theorem d_Md_menAs_26 : decode b_Md_menAs 26 = .ok (.iadd, 1) := by decide +kernel
set_option maxRecDepth 100000 in
theorem d_Md_menAs_27 : decode b_Md_menAs 27 = .ok (.istore_n 2, 1) := by decide +kernel
set_option maxRecDepth 100000 in
theorem d_Md_menAs_28 : decode b_Md_menAs 28 = .ok (.iinc 3 1, 3) := by decide +kernel
set_option maxRecDepth 100000 in
theorem d_Md_menAs_31 : decode b_Md_menAs 31 = .ok (.goto (-27), 3) := by decide +kernel
set_option maxRecDepth 100000 in
theorem d_Md_menAs_34 : decode b_Md_menAs 34 = .ok (.iload_n 2, 1) := by decide +kernel
set_option maxRecDepth 100000 in
theorem d_Md_menAs_35 : decode b_Md_menAs 35 = .ok (.ireturn, 1) := by decide +kernel
set_option maxRecDepth 100000 in
theorem d_Md_minutes_0 : decode b_Md_minutes 0 = .ok (.iload_n 1, 1) := by decide +kernel
set_option maxRecDepth 100000 in
theorem d_Md_minutes_1 : decode b_Md_minutes 1 = .ok (.iconst 1, 1) := by decide +kernel
set_option maxRecDepth 100000 in
theorem d_Md_minutes_2 : decode b_Md_minutes 2 = .ok (.sipush 1440, 3) := by decide +kernel
set_option maxRecDepth 100000 in
theorem d_Md_minutes_5 : decode b_Md_minutes 5 = .ok (.invokestatic 10, 3) := by decide +kernel
set_option maxRecDepth 100000 in
theorem d_Md_minutes_8 : decode b_Md_minutes 8 = .ok (.ifCond .eq 15, 3) := by decide +kernel
set_option maxRecDepth 100000 in
theorem d_Md_minutes_11 : decode b_Md_minutes 11 = .ok (.aload_n 0, 1) := by decide +kernel
set_option maxRecDepth 100000 in
theorem d_Md_minutes_12 : decode b_Md_minutes 12 = .ok (.getfield 7, 3) := by decide +kernel
set_option maxRecDepth 100000 in
theorem d_Md_minutes_15 : decode b_Md_minutes 15 = .ok (.iload_n 1, 1) := by decide +kernel
set_option maxRecDepth 100000 in
theorem d_Md_minutes_16 : decode b_Md_minutes 16 = .ok (.iadd, 1) := by decide +kernel
set_option maxRecDepth 100000 in
theorem d_Md_minutes_17 : decode b_Md_minutes 17 = .ok (.ldc_w 305, 3) := by decide +kernel
set_option maxRecDepth 100000 in
theorem d_Md_minutes_20 : decode b_Md_minutes 20 = .ok (.if_icmp .le 5, 3) := by decide +kernel
set_option maxRecDepth 100000 in
theorem d_Md_minutes_23 : decode b_Md_minutes 23 = .ok (.iconst (-1), 1) := by decide +kernel
set_option maxRecDepth 100000 in
theorem d_Md_minutes_24 : decode b_Md_minutes 24 = .ok (.ireturn, 1) := by decide +kernel
set_option maxRecDepth 100000 in
theorem d_Md_minutes_25 : decode b_Md_minutes 25 = .ok (.iconst 0, 1) := by decide +kernel
set_option maxRecDepth 100000 in
theorem d_Md_minutes_26 : decode b_Md_minutes 26 = .ok (.istore_n 2, 1) := by decide +kernel
set_option maxRecDepth 100000 in
theorem d_Md_minutes_27 : decode b_Md_minutes 27 = .ok (.iload_n 2, 1) := by decide +kernel
set_option maxRecDepth 100000 in
theorem d_Md_minutes_28 : decode b_Md_minutes 28 = .ok (.iload_n 1, 1) := by decide +kernel
set_option maxRecDepth 100000 in
theorem d_Md_minutes_29 : decode b_Md_minutes 29 = .ok (.if_icmp .ge 77, 3) := by decide +kernel
set_option maxRecDepth 100000 in
theorem d_Md_minutes_32 : decode b_Md_minutes 32 = .ok (.aload_n 0, 1) := by decide +kernel
set_option maxRecDepth 100000 in
theorem d_Md_minutes_33 : decode b_Md_minutes 33 = .ok (.dup, 1) := by decide +kernel
set_option maxRecDepth 100000 in
theorem d_Md_minutes_34 : decode b_Md_minutes 34 = .ok (.getfield 7, 3) := by decide +kernel
set_option maxRecDepth 100000 in
theorem d_Md_minutes_37 : decode b_Md_minutes 37 = .ok (.iconst 1, 1) := by decide +kernel
set_option maxRecDepth 100000 in
theorem d_Md_minutes_38 : decode b_Md_minutes 38 = .ok (.iadd, 1) := by decide +kernel
set_option maxRecDepth 100000 in
theorem d_Md_minutes_39 : decode b_Md_minutes 39 = .ok (.putfield 7, 3) := by decide +kernel
set_option maxRecDepth 100000 in
theorem d_Md_minutes_42 : decode b_Md_minutes 42 = .ok (.aload_n 0, 1) := by decide +kernel
set_option maxRecDepth 100000 in
theorem d_Md_minutes_43 : decode b_Md_minutes 43 = .ok (.invokevirtual 329, 3) := by decide +kernel
set_option maxRecDepth 100000 in
theorem d_Md_minutes_46 : decode b_Md_minutes 46 = .ok (.aload_n 0, 1) := by decide +kernel
set_option maxRecDepth 100000 in
theorem d_Md_minutes_47 : decode b_Md_minutes 47 = .ok (.getfield 7, 3) := by decide +kernel
set_option maxRecDepth 100000 in
theorem d_Md_minutes_50 : decode b_Md_minutes 50 = .ok (.sipush 720, 3) := by decide +kernel
set_option maxRecDepth 100000 in
theorem d_Md_minutes_53 : decode b_Md_minutes 53 = .ok (.irem, 1) := by decide +kernel
set_option maxRecDepth 100000 in
theorem d_Md_minutes_54 : decode b_Md_minutes 54 = .ok (.ifCond .eq 6, 3) := by decide +kernel
set_option maxRecDepth 100000 in
theorem d_Md_minutes_57 : decode b_Md_minutes 57 = .ok (.goto 43, 3) := by decide +kernel
set_option maxRecDepth 100000 in
theorem d_Md_minutes_60 : decode b_Md_minutes 60 = .ok (.aload_n 0, 1) := by decide +kernel
set_option maxRecDepth 100000 in
theorem d_Md_minutes_61 : decode b_Md_minutes 61 = .ok (.invokevirtual 45, 3) := by decide +kernel
set_option maxRecDepth 100000 in
theorem d_Md_minutes_64 : decode b_Md_minutes 64 = .ok (.iconst 1, 1) := by decide +kernel
set_option maxRecDepth 100000 in
theorem d_Md_minutes_65 : decode b_Md_minutes 65 = .ok (.isub, 1) := by decide +kernel
set_option maxRecDepth 100000 in
theorem d_Md_minutes_66 : decode b_Md_minutes 66 = .ok (.bipush 7, 2) := by decide +kernel
set_option maxRecDepth 100000 in
theorem d_Md_minutes_68 : decode b_Md_minutes 68 = .ok (.irem, 1) := by decide +kernel
set_option maxRecDepth 100000 in
theorem d_Md_minutes_69 : decode b_Md_minutes 69 = .ok (.ifCond .ne 13, 3) := by decide +kernel
set_option maxRecDepth 100000 in
theorem d_Md_minutes_72 : decode b_Md_minutes 72 = .ok (.aload_n 0, 1) := by decide +kernel
set_option maxRecDepth 100000 in
theorem d_Md_minutes_73 : decode b_Md_minutes 73 = .ok (.aload_n 0, 1) := by decide +kernel
set_option maxRecDepth 100000 in
theorem d_Md_minutes_74 : decode b_Md_minutes 74 = .ok (.invokevirtual 45, 3) := by decide +kernel
set_option maxRecDepth 100000 in
theorem d_Md_minutes_77 : decode b_Md_minutes 77 = .ok (.iconst 1, 1) := by decide +kernel
set_option maxRecDepth 100000 in
theorem d_Md_minutes_78 : decode b_Md_minutes 78 = .ok (.isub, 1) := by decide +kernel
set_option maxRecDepth 100000 in
theorem d_Md_minutes_79 : decode b_Md_minutes 79 = .ok (.invokevirtual 332, 3) := by decide +kernel
set_option maxRecDepth 100000 in
theorem d_Md_minutes_82 : decode b_Md_minutes 82 = .ok (.aload_n 0, 1) := by decide +kernel
set_option maxRecDepth 100000 in
theorem d_Md_minutes_83 : decode b_Md_minutes 83 = .ok (.invokevirtual 45, 3) := by decide +kernel
set_option maxRecDepth 100000 in
theorem d_Md_minutes_86 : decode b_Md_minutes 86 = .ok (.bipush 100, 2) := by decide +kernel
set_option maxRecDepth 100000 in
theorem d_Md_minutes_88 : decode b_Md_minutes 88 = .ok (.irem, 1) := by decide +kernel
set_option maxRecDepth 100000 in
theorem d_Md_minutes_89 : decode b_Md_minutes 89 = .ok (.ifCond .ne 11, 3) := by decide +kernel
set_option maxRecDepth 100000 in
theorem d_Md_minutes_100 : decode b_Md_minutes 100 = .ok (.iinc 2 1, 3) := by decide +kernel
set_option maxRecDepth 100000 in
theorem d_Md_minutes_103 : decode b_Md_minutes 103 = .ok (.goto (-76), 3) := by decide +kernel
set_option maxRecDepth 100000 in
theorem d_Md_minutes_106 : decode b_Md_minutes 106 = .ok (.aload_n 0, 1) := by decide +kernel
set_option maxRecDepth 100000 in
theorem d_Md_minutes_107 : decode b_Md_minutes 107 = .ok (.getfield 7, 3) := by decide +kernel
set_option maxRecDepth 100000 in
theorem d_Md_minutes_110 : decode b_Md_minutes 110 = .ok (.ireturn, 1) := by decide +kernel
set_option maxRecDepth 100000 in
theorem d_Md_newPensioner_0 : decode b_Md_newPensioner 0 = .ok (.aload_n 0, 1) := by decide +kernel
set_option maxRecDepth 100000 in
theorem d_Md_newPensioner_1 : decode b_Md_newPensioner 1 = .ok (.getfield 177, 3) := by decide +kernel
set_option maxRecDepth 100000 in
theorem d_Md_newPensioner_4 : decode b_Md_newPensioner 4 = .ok (.aload_n 0, 1) := by decide +kernel
set_option maxRecDepth 100000 in
theorem d_Md_newPensioner_5 : decode b_Md_newPensioner 5 = .ok (.getfield 323, 3) := by decide +kernel
set_option maxRecDepth 100000 in
theorem d_Md_newPensioner_8 : decode b_Md_newPensioner 8 = .ok (.iload_n 1, 1) := by decide +kernel
set_option maxRecDepth 100000 in
theorem d_Md_newPensioner_9 : decode b_Md_newPensioner 9 = .ok (.iastore, 1) := by decide +kernel
set_option maxRecDepth 100000 in
theorem d_Md_newPensioner_10 : decode b_Md_newPensioner 10 = .ok (.aload_n 0, 1) := by decide +kernel
set_option maxRecDepth 100000 in
theorem d_Md_newPensioner_11 : decode b_Md_newPensioner 11 = .ok (.getfield 180, 3) := by decide +kernel
set_option maxRecDepth 100000 in
theorem d_Md_newPensioner_14 : decode b_Md_newPensioner 14 = .ok (.aload_n 0, 1) := by decide +kernel
set_option maxRecDepth 100000 in
theorem d_Md_newPensioner_15 : decode b_Md_newPensioner 15 = .ok (.getfield 323, 3) := by decide +kernel
set_option maxRecDepth 100000 in
theorem d_Md_newPensioner_18 : decode b_Md_newPensioner 18 = .ok (.iload_n 2, 1) := by decide +kernel
set_option maxRecDepth 100000 in
theorem d_Md_newPensioner_19 : decode b_Md_newPensioner 19 = .ok (.iastore, 1) := by decide +kernel
set_option maxRecDepth 100000 in
theorem d_Md_newPensioner_20 : decode b_Md_newPensioner 20 = .ok (.aload_n 0, 1) := by decide +kernel
set_option maxRecDepth 100000 in
theorem d_Md_newPensioner_21 : decode b_Md_newPensioner 21 = .ok (.dup, 1) := by decide +kernel
set_option maxRecDepth 100000 in
theorem d_Md_newPensioner_22 : decode b_Md_newPensioner 22 = .ok (.getfield 323, 3) := by decide +kernel
set_option maxRecDepth 100000 in
theorem d_Md_newPensioner_25 : decode b_Md_newPensioner 25 = .ok (.iconst 1, 1) := by decide +kernel
set_option maxRecDepth 100000 in
theorem d_Md_newPensioner_26 : decode b_Md_newPensioner 26 = .ok (.iadd, 1) := by decide +kernel
set_option maxRecDepth 100000 in
theorem d_Md_newPensioner_27 : decode b_Md_newPensioner 27 = .ok (.putfield 323, 3) := by decide +kernel
set_option maxRecDepth 100000 in
theorem d_Md_newPensioner_30 : decode b_Md_newPensioner 30 = .ok (.aload_n 0, 1) := by decide +kernel
set_option maxRecDepth 100000 in
theorem d_Md_newPensioner_31 : decode b_Md_newPensioner 31 = .ok (.getfield 323, 3) := by decide +kernel
set_option maxRecDepth 100000 in
theorem d_Md_newPensioner_34 : decode b_Md_newPensioner 34 = .ok (.iconst 1, 1) := by decide +kernel
set_option maxRecDepth 100000 in
theorem d_Md_newPensioner_35 : decode b_Md_newPensioner 35 = .ok (.isub, 1) := by decide +kernel
set_option maxRecDepth 100000 in
theorem d_Md_newPensioner_36 : decode b_Md_newPensioner 36 = .ok (.ireturn, 1) := by decide +kernel
set_option maxRecDepth 100000 in
theorem d_Md_order_0 : decode b_Md_order 0 = .ok (.iload_n 1, 1) := by decide +kernel
set_option maxRecDepth 100000 in
theorem d_Md_order_1 : decode b_Md_order 1 = .ok (.invokestatic 38, 3) := by decide +kernel
set_option maxRecDepth 100000 in
theorem d_Md_order_4 : decode b_Md_order 4 = .ok (.ifCond .ne 5, 3) := by decide +kernel
set_option maxRecDepth 100000 in
theorem d_Md_order_7 : decode b_Md_order 7 = .ok (.iconst (-1), 1) := by decide +kernel
set_option maxRecDepth 100000 in
theorem d_Md_order_8 : decode b_Md_order 8 = .ok (.ireturn, 1) := by decide +kernel
set_option maxRecDepth 100000 in
theorem d_Md_order_9 : decode b_Md_order 9 = .ok (.aload_n 0, 1) := by decide +kernel
set_option maxRecDepth 100000 in
theorem d_Md_order_10 : decode b_Md_order 10 = .ok (.getfield 275, 3) := by decide +kernel
set_option maxRecDepth 100000 in
theorem d_Md_order_13 : decode b_Md_order 13 = .ok (.bipush 20, 2) := by decide +kernel
set_option maxRecDepth 100000 in
theorem d_Md_order_15 : decode b_Md_order 15 = .ok (.if_icmp .ne 6, 3) := by decide +kernel
set_option maxRecDepth 100000 in
theorem d_Md_order_21 : decode b_Md_order 21 = .ok (.aload_n 0, 1) := by decide +kernel
set_option maxRecDepth 100000 in
theorem d_Md_order_22 : decode b_Md_order 22 = .ok (.getfield 275, 3) := by decide +kernel
set_option maxRecDepth 100000 in
theorem d_Md_order_25 : decode b_Md_order 25 = .ok (.istore_n 2, 1) := by decide +kernel
set_option maxRecDepth 100000 in
theorem d_Md_order_26 : decode b_Md_order 26 = .ok (.aload_n 0, 1) := by decide +kernel
set_option maxRecDepth 100000 in
theorem d_Md_order_27 : decode b_Md_order 27 = .ok (.getfield 119, 3) := by decide +kernel
set_option maxRecDepth 100000 in
theorem d_Md_order_30 : decode b_Md_order 30 = .ok (.iload_n 2, 1) := by decide +kernel
set_option maxRecDepth 100000 in
theorem d_Md_order_31 : decode b_Md_order 31 = .ok (.iconst 0, 1) := by decide +kernel
set_option maxRecDepth 100000 in
theorem d_Md_order_32 : decode b_Md_order 32 = .ok (.iastore, 1) := by decide +kernel
set_option maxRecDepth 100000 in
theorem d_Md_order_33 : decode b_Md_order 33 = .ok (.aload_n 0, 1) := by decide +kernel
set_option maxRecDepth 100000 in
theorem d_Md_order_34 : decode b_Md_order 34 = .ok (.getfield 131, 3) := by decide +kernel
set_option maxRecDepth 100000 in
theorem d_Md_order_37 : decode b_Md_order 37 = .ok (.iload_n 2, 1) := by decide +kernel
set_option maxRecDepth 100000 in
theorem d_Md_order_38 : decode b_Md_order 38 = .ok (.iconst 0, 1) := by decide +kernel
set_option maxRecDepth 100000 in
theorem d_Md_order_39 : decode b_Md_order 39 = .ok (.iastore, 1) := by decide +kernel
set_option maxRecDepth 100000 in
theorem d_Md_order_40 : decode b_Md_order 40 = .ok (.iconst 0, 1) := by decide +kernel
set_option maxRecDepth 100000 in
theorem d_Md_order_41 : decode b_Md_order 41 = .ok (.istore_n 3, 1) := by decide +kernel
set_option maxRecDepth 100000 in
theorem d_Md_order_42 : decode b_Md_order 42 = .ok (.iload_n 3, 1) := by decide +kernel
set_option maxRecDepth 100000 in
theorem d_Md_order_43 : decode b_Md_order 43 = .ok (.bipush 9, 2) := by decide +kernel
set_option maxRecDepth 100000 in
theorem d_Md_order_45 : decode b_Md_order 45 = .ok (.if_icmp .ge 21, 3) := by decide +kernel
set_option maxRecDepth 100000 in
theorem d_Md_order_48 : decode b_Md_order 48 = .ok (.aload_n 0, 1) := by decide +kernel
set_option maxRecDepth 100000 in
theorem d_Md_order_49 : decode b_Md_order 49 = .ok (.getfield 143, 3) := by decide +kernel
set_option maxRecDepth 100000 in
theorem d_Md_order_52 : decode b_Md_order 52 = .ok (.bipush 9, 2) := by decide +kernel
set_option maxRecDepth 100000 in
theorem d_Md_order_54 : decode b_Md_order 54 = .ok (.iload_n 2, 1) := by decide +kernel
set_option maxRecDepth 100000 in
theorem d_Md_order_55 : decode b_Md_order 55 = .ok (.imul, 1) := by decide +kernel
set_option maxRecDepth 100000 in
theorem d_Md_order_56 : decode b_Md_order 56 = .ok (.iload_n 3, 1) := by decide +kernel
set_option maxRecDepth 100000 in
theorem d_Md_order_57 : decode b_Md_order 57 = .ok (.iadd, 1) := by decide +kernel
set_option maxRecDepth 100000 in
theorem d_Md_order_58 : decode b_Md_order 58 = .ok (.iconst (-1), 1) := by decide +kernel
set_option maxRecDepth 100000 in
theorem d_Md_order_59 : decode b_Md_order 59 = .ok (.iastore, 1) := by decide +kernel
set_option maxRecDepth 100000 in
theorem d_Md_order_60 : decode b_Md_order 60 = .ok (.iinc 3 1, 3) := by decide +kernel
set_option maxRecDepth 100000 in
theorem d_Md_order_63 : decode b_Md_order 63 = .ok (.goto (-21), 3) := by decide +kernel
set_option maxRecDepth 100000 in
theorem d_Md_order_66 : decode b_Md_order 66 = .ok (.aload_n 0, 1) := by decide +kernel
set_option maxRecDepth 100000 in
theorem d_Md_order_67 : decode b_Md_order 67 = .ok (.iconst 0, 1) := by decide +kernel
set_option maxRecDepth 100000 in
theorem d_Md_order_68 : decode b_Md_order 68 = .ok (.putfield 218, 3) := by decide +kernel
set_option maxRecDepth 100000 in
theorem d_Md_order_71 : decode b_Md_order 71 = .ok (.aload_n 0, 1) := by decide +kernel
set_option maxRecDepth 100000 in
theorem d_Md_order_72 : decode b_Md_order 72 = .ok (.invokevirtual 269, 3) := by decide +kernel
set_option maxRecDepth 100000 in
theorem d_Md_order_75 : decode b_Md_order 75 = .ok (.iconst 1, 1) := by decide +kernel
set_option maxRecDepth 100000 in
theorem d_Md_order_76 : decode b_Md_order 76 = .ok (.istore_n 3, 1) := by decide +kernel
set_option maxRecDepth 100000 in
theorem d_Md_order_77 : decode b_Md_order 77 = .ok (.iconst 1, 1) := by decide +kernel
set_option maxRecDepth 100000 in
theorem d_Md_order_78 : decode b_Md_order 78 = .ok (.istore 4, 2) := by decide +kernel
set_option maxRecDepth 100000 in
theorem d_Md_order_80 : decode b_Md_order 80 = .ok (.iload_n 3, 1) := by decide +kernel
set_option maxRecDepth 100000 in
theorem d_Md_order_81 : decode b_Md_order 81 = .ok (.ifCond .eq 31, 3) := by decide +kernel
set_option maxRecDepth 100000 in
theorem d_Md_order_84 : decode b_Md_order 84 = .ok (.iload 4, 2) := by decide +kernel
set_option maxRecDepth 100000 in
theorem d_Md_order_86 : decode b_Md_order 86 = .ok (.ifCond .eq 26, 3) := by decide +kernel
set_option maxRecDepth 100000 in
theorem d_Md_order_89 : decode b_Md_order 89 = .ok (.aload_n 0, 1) := by decide +kernel
set_option maxRecDepth 100000 in
theorem d_Md_order_90 : decode b_Md_order 90 = .ok (.iload_n 2, 1) := by decide +kernel
set_option maxRecDepth 100000 in
theorem d_Md_order_91 : decode b_Md_order 91 = .ok (.invokevirtual 278, 3) := by decide +kernel
set_option maxRecDepth 100000 in
theorem d_Md_order_94 : decode b_Md_order 94 = .ok (.istore_n 3, 1) := by decide +kernel
set_option maxRecDepth 100000 in
theorem d_Md_order_95 : decode b_Md_order 95 = .ok (.aload_n 0, 1) := by decide +kernel
set_option maxRecDepth 100000 in
theorem d_Md_order_96 : decode b_Md_order 96 = .ok (.getfield 224, 3) := by decide +kernel
set_option maxRecDepth 100000 in
theorem d_Md_order_99 : decode b_Md_order 99 = .ok (.ifCond .eq 7, 3) := by decide +kernel
set_option maxRecDepth 100000 in
theorem d_Md_order_106 : decode b_Md_order 106 = .ok (.iconst 0, 1) := by decide +kernel
set_option maxRecDepth 100000 in
theorem d_Md_order_107 : decode b_Md_order 107 = .ok (.istore 4, 2) := by decide +kernel
set_option maxRecDepth 100000 in
theorem d_Md_order_109 : decode b_Md_order 109 = .ok (.goto (-29), 3) := by decide +kernel
set_option maxRecDepth 100000 in
theorem d_Md_order_112 : decode b_Md_order 112 = .ok (.aload_n 0, 1) := by decide +kernel
set_option maxRecDepth 100000 in
theorem d_Md_order_113 : decode b_Md_order 113 = .ok (.iconst 0, 1) := by decide +kernel
set_option maxRecDepth 100000 in
theorem d_Md_order_114 : decode b_Md_order 114 = .ok (.putfield 212, 3) := by decide +kernel
set_option maxRecDepth 100000 in
theorem d_Md_order_117 : decode b_Md_order 117 = .ok (.iload_n 3, 1) := by decide +kernel
set_option maxRecDepth 100000 in
theorem d_Md_order_118 : decode b_Md_order 118 = .ok (.ifCond .ne 11, 3) := by decide +kernel
set_option maxRecDepth 100000 in
theorem d_Md_order_121 : decode b_Md_order 121 = .ok (.bipush (-100), 2) := by decide +kernel
set_option maxRecDepth 100000 in
theorem d_Md_order_123 : decode b_Md_order 123 = .ok (.aload_n 0, 1) := by decide +kernel
set_option maxRecDepth 100000 in
theorem d_Md_order_124 : decode b_Md_order 124 = .ok (.getfield 221, 3) := by decide +kernel
set_option maxRecDepth 100000 in
theorem d_Md_order_127 : decode b_Md_order 127 = .ok (.isub, 1) := by decide +kernel
set_option maxRecDepth 100000 in
theorem d_Md_order_128 : decode b_Md_order 128 = .ok (.ireturn, 1) := by decide +kernel
set_option maxRecDepth 100000 in
theorem d_Md_over_0 : decode b_Md_over 0 = .ok (.iload_n 1, 1) := by decide +kernel
set_option maxRecDepth 100000 in
theorem d_Md_over_1 : decode b_Md_over 1 = .ok (.invokestatic 186, 3) := by decide +kernel
set_option maxRecDepth 100000 in
theorem d_Md_over_4 : decode b_Md_over 4 = .ok (.ifCond .eq 10, 3) := by decide +kernel
set_option maxRecDepth 100000 in
theorem d_Md_over_7 : decode b_Md_over 7 = .ok (.iload_n 2, 1) := by decide +kernel
set_option maxRecDepth 100000 in
theorem d_Md_over_8 : decode b_Md_over 8 = .ok (.invokestatic 38, 3) := by decide +kernel
set_option maxRecDepth 100000 in
theorem d_Md_over_11 : decode b_Md_over 11 = .ok (.ifCond .ne 5, 3) := by decide +kernel
set_option maxRecDepth 100000 in
theorem d_Md_over_14 : decode b_Md_over 14 = .ok (.iconst (-1), 1) := by decide +kernel
set_option maxRecDepth 100000 in
theorem d_Md_over_15 : decode b_Md_over 15 = .ok (.ireturn, 1) := by decide +kernel
set_option maxRecDepth 100000 in
theorem d_Md_over_16 : decode b_Md_over 16 = .ok (.iconst 0, 1) := by decide +kernel
set_option maxRecDepth 100000 in
theorem d_Md_over_17 : decode b_Md_over 17 = .ok (.istore_n 3, 1) := by decide +kernel
set_option maxRecDepth 100000 in
theorem d_Md_over_18 : decode b_Md_over 18 = .ok (.iconst 0, 1) := by decide +kernel
set_option maxRecDepth 100000 in
theorem d_Md_over_19 : decode b_Md_over 19 = .ok (.istore 4, 2) := by decide +kernel
set_option maxRecDepth 100000 in
theorem d_Md_over_21 : decode b_Md_over 21 = .ok (.iload 4, 2) := by decide +kernel
set_option maxRecDepth 100000 in
theorem d_Md_over_23 : decode b_Md_over 23 = .ok (.aload_n 0, 1) := by decide +kernel
set_option maxRecDepth 100000 in
theorem d_Md_over_24 : decode b_Md_over 24 = .ok (.getfield 313, 3) := by decide +kernel
set_option maxRecDepth 100000 in
theorem d_Md_over_27 : decode b_Md_over 27 = .ok (.if_icmp .ge 66, 3) := by decide +kernel
set_option maxRecDepth 100000 in
theorem d_Md_over_93 : decode b_Md_over 93 = .ok (.iload_n 3, 1) := by decide +kernel
set_option maxRecDepth 100000 in
theorem d_Md_over_94 : decode b_Md_over 94 = .ok (.ireturn, 1) := by decide +kernel
set_option maxRecDepth 100000 in
theorem d_Md_part_0 : decode b_Md_part 0 = .ok (.iconst 0, 1) := by decide +kernel
set_option maxRecDepth 100000 in
theorem d_Md_part_1 : decode b_Md_part 1 = .ok (.istore_n 2, 1) := by decide +kernel
set_option maxRecDepth 100000 in
theorem d_Md_part_2 : decode b_Md_part 2 = .ok (.iconst 0, 1) := by decide +kernel
set_option maxRecDepth 100000 in
theorem d_Md_part_3 : decode b_Md_part 3 = .ok (.istore_n 3, 1) := by decide +kernel
set_option maxRecDepth 100000 in
theorem d_Md_part_4 : decode b_Md_part 4 = .ok (.iload_n 3, 1) := by decide +kernel
set_option maxRecDepth 100000 in
theorem d_Md_part_5 : decode b_Md_part 5 = .ok (.bipush 40, 2) := by decide +kernel
set_option maxRecDepth 100000 in
theorem d_Md_part_7 : decode b_Md_part 7 = .ok (.if_icmp .ge 26, 3) := by decide +kernel
set_option maxRecDepth 100000 in
theorem d_Md_part_10 : decode b_Md_part 10 = .ok (.iload_n 2, 1) := by decide +kernel
set_option maxRecDepth 100000 in
theorem d_Md_part_11 : decode b_Md_part 11 = .ok (.aload_n 0, 1) := by decide +kernel
set_option maxRecDepth 100000 in
theorem d_Md_part_12 : decode b_Md_part 12 = .ok (.getfield 85, 3) := by decide +kernel
set_option maxRecDepth 100000 in
theorem d_Md_part_15 : decode b_Md_part 15 = .ok (.iload_n 3, 1) := by decide +kernel
set_option maxRecDepth 100000 in
theorem d_Md_part_16 : decode b_Md_part 16 = .ok (.baload, 1) := by decide +kernel
set_option maxRecDepth 100000 in
theorem d_Md_part_17 : decode b_Md_part 17 = .ok (.ifCond .eq 7, 3) := by decide +kernel
set_option maxRecDepth 100000 in
theorem d_Md_part_24 : decode b_Md_part 24 = .ok (.iconst 0, 1) := by decide +kernel
set_option maxRecDepth 100000 in
theorem d_Md_part_25 : decode b_Md_part 25 = .ok (.iadd, 1) := by decide +kernel
set_option maxRecDepth 100000 in
theorem d_Md_part_26 : decode b_Md_part 26 = .ok (.istore_n 2, 1) := by decide +kernel
set_option maxRecDepth 100000 in
theorem d_Md_part_27 : decode b_Md_part 27 = .ok (.iinc 3 1, 3) := by decide +kernel
set_option maxRecDepth 100000 in
theorem d_Md_part_30 : decode b_Md_part 30 = .ok (.goto (-26), 3) := by decide +kernel
set_option maxRecDepth 100000 in
theorem d_Md_part_33 : decode b_Md_part 33 = .ok (.iload_n 2, 1) := by decide +kernel
set_option maxRecDepth 100000 in
theorem d_Md_part_34 : decode b_Md_part 34 = .ok (.ifCond .ne 7, 3) := by decide +kernel
set_option maxRecDepth 100000 in
theorem d_Md_part_37 : decode b_Md_part 37 = .ok (.lconst 0, 1) := by decide +kernel
set_option maxRecDepth 100000 in
theorem d_Md_part_38 : decode b_Md_part 38 = .ok (.goto 10, 3) := by decide +kernel
set_option maxRecDepth 100000 in
theorem d_Md_part_48 : decode b_Md_part 48 = .ok (.lstore_n 3, 1) := by decide +kernel
set_option maxRecDepth 100000 in
theorem d_Md_part_49 : decode b_Md_part 49 = .ok (.iconst 0, 1) := by decide +kernel
set_option maxRecDepth 100000 in
theorem d_Md_part_50 : decode b_Md_part 50 = .ok (.istore 5, 2) := by decide +kernel
set_option maxRecDepth 100000 in
theorem d_Md_part_52 : decode b_Md_part 52 = .ok (.iload 5, 2) := by decide +kernel
set_option maxRecDepth 100000 in
theorem d_Md_part_54 : decode b_Md_part 54 = .ok (.bipush 40, 2) := by decide +kernel
set_option maxRecDepth 100000 in
theorem d_Md_part_56 : decode b_Md_part 56 = .ok (.if_icmp .ge 39, 3) := by decide +kernel
set_option maxRecDepth 100000 in
theorem d_Md_part_59 : decode b_Md_part 59 = .ok (.aload_n 0, 1) := by decide +kernel
set_option maxRecDepth 100000 in
theorem d_Md_part_60 : decode b_Md_part 60 = .ok (.getfield 85, 3) := by decide +kernel
set_option maxRecDepth 100000 in
theorem d_Md_part_63 : decode b_Md_part 63 = .ok (.iload 5, 2) := by decide +kernel
set_option maxRecDepth 100000 in
theorem d_Md_part_65 : decode b_Md_part 65 = .ok (.baload, 1) := by decide +kernel
set_option maxRecDepth 100000 in
theorem d_Md_part_66 : decode b_Md_part 66 = .ok (.ifCond .eq 15, 3) := by decide +kernel
set_option maxRecDepth 100000 in
theorem d_Md_part_81 : decode b_Md_part 81 = .ok (.aload_n 0, 1) := by decide +kernel
set_option maxRecDepth 100000 in
theorem d_Md_part_82 : decode b_Md_part 82 = .ok (.getfield 85, 3) := by decide +kernel
set_option maxRecDepth 100000 in
theorem d_Md_part_85 : decode b_Md_part 85 = .ok (.iload 5, 2) := by decide +kernel
set_option maxRecDepth 100000 in
theorem d_Md_part_87 : decode b_Md_part 87 = .ok (.iconst 0, 1) := by decide +kernel
set_option maxRecDepth 100000 in
theorem d_Md_part_88 : decode b_Md_part 88 = .ok (.bastore, 1) := by decide +kernel
set_option maxRecDepth 100000 in
theorem d_Md_part_89 : decode b_Md_part 89 = .ok (.iinc 5 1, 3) := by decide +kernel
set_option maxRecDepth 100000 in
theorem d_Md_part_92 : decode b_Md_part 92 = .ok (.goto (-40), 3) := by decide +kernel
set_option maxRecDepth 100000 in
theorem d_Md_part_95 : decode b_Md_part 95 = .ok (.aload_n 0, 1) := by decide +kernel
set_option maxRecDepth 100000 in
theorem d_Md_part_96 : decode b_Md_part 96 = .ok (.dup, 1) := by decide +kernel
set_option maxRecDepth 100000 in
theorem d_Md_part_97 : decode b_Md_part 97 = .ok (.getfield 316, 3) := by decide +kernel
set_option maxRecDepth 100000 in
theorem d_Md_part_100 : decode b_Md_part 100 = .ok (.aload_n 0, 1) := by decide +kernel
set_option maxRecDepth 100000 in
theorem d_Md_part_101 : decode b_Md_part 101 = .ok (.getfield 320, 3) := by decide +kernel
set_option maxRecDepth 100000 in
theorem d_Md_part_104 : decode b_Md_part 104 = .ok (.lload_n 3, 1) := by decide +kernel
set_option maxRecDepth 100000 in
theorem d_Md_part_105 : decode b_Md_part 105 = .ok (.iload_n 2, 1) := by decide +kernel
set_option maxRecDepth 100000 in
theorem d_Md_part_106 : decode b_Md_part 106 = .ok (.i2l, 1) := by decide +kernel
set_option maxRecDepth 100000 in
theorem d_Md_part_107 : decode b_Md_part 107 = .ok (.lmul, 1) := by decide +kernel
set_option maxRecDepth 100000 in
theorem d_Md_part_108 : decode b_Md_part 108 = .ok (.lsub, 1) := by decide +kernel
set_option maxRecDepth 100000 in
theorem d_Md_part_109 : decode b_Md_part 109 = .ok (.ladd, 1) := by decide +kernel
set_option maxRecDepth 100000 in
theorem d_Md_part_110 : decode b_Md_part 110 = .ok (.putfield 316, 3) := by decide +kernel
set_option maxRecDepth 100000 in
theorem d_Md_part_113 : decode b_Md_part 113 = .ok (.aload_n 0, 1) := by decide +kernel
set_option maxRecDepth 100000 in
theorem d_Md_part_114 : decode b_Md_part 114 = .ok (.getfield 173, 3) := by decide +kernel
set_option maxRecDepth 100000 in
theorem d_Md_part_117 : decode b_Md_part 117 = .ok (.iload_n 1, 1) := by decide +kernel
set_option maxRecDepth 100000 in
theorem d_Md_part_118 : decode b_Md_part 118 = .ok (.dup2, 1) := by decide +kernel
set_option maxRecDepth 100000 in
theorem d_Md_part_119 : decode b_Md_part 119 = .ok (.laload, 1) := by decide +kernel
set_option maxRecDepth 100000 in
theorem d_Md_part_120 : decode b_Md_part 120 = .ok (.aload_n 0, 1) := by decide +kernel
set_option maxRecDepth 100000 in
theorem d_Md_part_121 : decode b_Md_part 121 = .ok (.getfield 320, 3) := by decide +kernel
set_option maxRecDepth 100000 in
theorem d_Md_part_124 : decode b_Md_part 124 = .ok (.lload_n 3, 1) := by decide +kernel
set_option maxRecDepth 100000 in
theorem d_Md_part_125 : decode b_Md_part 125 = .ok (.iload_n 2, 1) := by decide +kernel
set_option maxRecDepth 100000 in
theorem d_Md_part_126 : decode b_Md_part 126 = .ok (.i2l, 1) := by decide +kernel
set_option maxRecDepth 100000 in
theorem d_Md_part_127 : decode b_Md_part 127 = .ok (.lmul, 1) := by decide +kernel
set_option maxRecDepth 100000 in
theorem d_Md_part_128 : decode b_Md_part 128 = .ok (.lsub, 1) := by decide +kernel
set_option maxRecDepth 100000 in
theorem d_Md_part_129 : decode b_Md_part 129 = .ok (.ladd, 1) := by decide +kernel
set_option maxRecDepth 100000 in
theorem d_Md_part_130 : decode b_Md_part 130 = .ok (.lastore, 1) := by decide +kernel
set_option maxRecDepth 100000 in
theorem d_Md_part_131 : decode b_Md_part 131 = .ok (.aload_n 0, 1) := by decide +kernel
set_option maxRecDepth 100000 in
theorem d_Md_part_132 : decode b_Md_part 132 = .ok (.lconst 0, 1) := by decide +kernel
set_option maxRecDepth 100000 in
theorem d_Md_part_133 : decode b_Md_part 133 = .ok (.putfield 320, 3) := by decide +kernel
set_option maxRecDepth 100000 in
theorem d_Md_part_136 : decode b_Md_part 136 = .ok (.return_, 1) := by decide +kernel
set_option maxRecDepth 100000 in
theorem d_Md_pass_0 : decode b_Md_pass 0 = .ok (.iload_n 1, 1) := by decide +kernel
set_option maxRecDepth 100000 in
theorem d_Md_pass_1 : decode b_Md_pass 1 = .ok (.invokestatic 186, 3) := by decide +kernel
set_option maxRecDepth 100000 in
theorem d_Md_pass_4 : decode b_Md_pass 4 = .ok (.ifCond .ne 5, 3) := by decide +kernel
set_option maxRecDepth 100000 in
theorem d_Md_pass_7 : decode b_Md_pass 7 = .ok (.iconst (-1), 1) := by decide +kernel
set_option maxRecDepth 100000 in
theorem d_Md_pass_8 : decode b_Md_pass 8 = .ok (.ireturn, 1) := by decide +kernel
set_option maxRecDepth 100000 in
theorem d_Md_pass_9 : decode b_Md_pass 9 = .ok (.aload_n 0, 1) := by decide +kernel
set_option maxRecDepth 100000 in
theorem d_Md_pass_10 : decode b_Md_pass 10 = .ok (.getfield 58, 3) := by decide +kernel
set_option maxRecDepth 100000 in
theorem d_Md_pass_13 : decode b_Md_pass 13 = .ok (.iload_n 1, 1) := by decide +kernel
set_option maxRecDepth 100000 in
theorem d_Md_pass_14 : decode b_Md_pass 14 = .ok (.iaload, 1) := by decide +kernel
set_option maxRecDepth 100000 in
theorem d_Md_pass_15 : decode b_Md_pass 15 = .ok (.iconst 1, 1) := by decide +kernel
set_option maxRecDepth 100000 in
theorem d_Md_pass_16 : decode b_Md_pass 16 = .ok (.if_icmp .eq 6, 3) := by decide +kernel
set_option maxRecDepth 100000 in
theorem d_Md_pass_19 : decode b_Md_pass 19 = .ok (.bipush (-2), 2) := by decide +kernel
set_option maxRecDepth 100000 in
theorem d_Md_pass_21 : decode b_Md_pass 21 = .ok (.ireturn, 1) := by decide +kernel
set_option maxRecDepth 100000 in
theorem d_Md_pension_0 : decode b_Md_pension 0 = .ok (.iload_n 1, 1) := by decide +kernel
set_option maxRecDepth 100000 in
theorem d_Md_pension_1 : decode b_Md_pension 1 = .ok (.iload_n 2, 1) := by decide +kernel
set_option maxRecDepth 100000 in
theorem d_Md_pension_2 : decode b_Md_pension 2 = .ok (.invokestatic 338, 3) := by decide +kernel
set_option maxRecDepth 100000 in
theorem d_Md_pension_5 : decode b_Md_pension 5 = .ok (.ifCond .ne 5, 3) := by decide +kernel
set_option maxRecDepth 100000 in
theorem d_Md_pension_8 : decode b_Md_pension 8 = .ok (.iconst (-1), 1) := by decide +kernel
set_option maxRecDepth 100000 in
theorem d_Md_pension_9 : decode b_Md_pension 9 = .ok (.ireturn, 1) := by decide +kernel
set_option maxRecDepth 100000 in
theorem d_Md_pension_10 : decode b_Md_pension 10 = .ok (.aload_n 0, 1) := by decide +kernel
set_option maxRecDepth 100000 in
theorem d_Md_pension_11 : decode b_Md_pension 11 = .ok (.getfield 323, 3) := by decide +kernel
set_option maxRecDepth 100000 in
theorem d_Md_pension_14 : decode b_Md_pension 14 = .ok (.bipush 30, 2) := by decide +kernel
set_option maxRecDepth 100000 in
theorem d_Md_pension_16 : decode b_Md_pension 16 = .ok (.if_icmp .ne 8, 3) := by decide +kernel
set_option maxRecDepth 100000 in
theorem d_Md_pension_24 : decode b_Md_pension 24 = .ok (.aload_n 0, 1) := by decide +kernel
set_option maxRecDepth 100000 in
theorem d_Md_pension_25 : decode b_Md_pension 25 = .ok (.iload_n 1, 1) := by decide +kernel
set_option maxRecDepth 100000 in
theorem d_Md_pension_26 : decode b_Md_pension 26 = .ok (.iload_n 2, 1) := by decide +kernel
set_option maxRecDepth 100000 in
theorem d_Md_pension_27 : decode b_Md_pension 27 = .ok (.invokevirtual 342, 3) := by decide +kernel
set_option maxRecDepth 100000 in
theorem d_Md_pension_30 : decode b_Md_pension 30 = .ok (.ireturn, 1) := by decide +kernel
set_option maxRecDepth 100000 in
theorem d_Md_pensioner_0 : decode b_Md_pensioner 0 = .ok (.iload_n 1, 1) := by decide +kernel
set_option maxRecDepth 100000 in
theorem d_Md_pensioner_1 : decode b_Md_pensioner 1 = .ok (.iconst 0, 1) := by decide +kernel
set_option maxRecDepth 100000 in
theorem d_Md_pensioner_2 : decode b_Md_pensioner 2 = .ok (.aload_n 0, 1) := by decide +kernel
set_option maxRecDepth 100000 in
theorem d_Md_pensioner_3 : decode b_Md_pensioner 3 = .ok (.getfield 323, 3) := by decide +kernel
set_option maxRecDepth 100000 in
theorem d_Md_pensioner_6 : decode b_Md_pensioner 6 = .ok (.iconst 1, 1) := by decide +kernel
set_option maxRecDepth 100000 in
theorem d_Md_pensioner_7 : decode b_Md_pensioner 7 = .ok (.isub, 1) := by decide +kernel
set_option maxRecDepth 100000 in
theorem d_Md_pensioner_8 : decode b_Md_pensioner 8 = .ok (.invokestatic 10, 3) := by decide +kernel
set_option maxRecDepth 100000 in
theorem d_Md_pensioner_11 : decode b_Md_pensioner 11 = .ok (.ifCond .ne 5, 3) := by decide +kernel
set_option maxRecDepth 100000 in
theorem d_Md_pensioner_14 : decode b_Md_pensioner 14 = .ok (.iconst (-1), 1) := by decide +kernel
set_option maxRecDepth 100000 in
theorem d_Md_pensioner_15 : decode b_Md_pensioner 15 = .ok (.ireturn, 1) := by decide +kernel
set_option maxRecDepth 100000 in
theorem d_Md_placeOf_0 : decode b_Md_placeOf 0 = .ok (.aload_n 0, 1) := by decide +kernel
set_option maxRecDepth 100000 in
theorem d_Md_placeOf_1 : decode b_Md_placeOf 1 = .ok (.iload_n 1, 1) := by decide +kernel
set_option maxRecDepth 100000 in
theorem d_Md_placeOf_2 : decode b_Md_placeOf 2 = .ok (.invokevirtual 193, 3) := by decide +kernel
set_option maxRecDepth 100000 in
theorem d_Md_placeOf_5 : decode b_Md_placeOf 5 = .ok (.istore_n 2, 1) := by decide +kernel
set_option maxRecDepth 100000 in
theorem d_Md_placeOf_6 : decode b_Md_placeOf 6 = .ok (.iconst 0, 1) := by decide +kernel
set_option maxRecDepth 100000 in
theorem d_Md_placeOf_7 : decode b_Md_placeOf 7 = .ok (.istore_n 3, 1) := by decide +kernel
set_option maxRecDepth 100000 in
theorem d_Md_placeOf_8 : decode b_Md_placeOf 8 = .ok (.iload_n 2, 1) := by decide +kernel
set_option maxRecDepth 100000 in
theorem d_Md_placeOf_9 : decode b_Md_placeOf 9 = .ok (.ifCond .lt 24, 3) := by decide +kernel
set_option maxRecDepth 100000 in
theorem d_Md_placeOf_33 : decode b_Md_placeOf 33 = .ok (.iload_n 2, 1) := by decide +kernel
set_option maxRecDepth 100000 in
theorem d_Md_placeOf_34 : decode b_Md_placeOf 34 = .ok (.ifCond .ge 7, 3) := by decide +kernel
set_option maxRecDepth 100000 in
theorem d_Md_placeOf_37 : decode b_Md_placeOf 37 = .ok (.iconst (-1), 1) := by decide +kernel
set_option maxRecDepth 100000 in
theorem d_Md_placeOf_38 : decode b_Md_placeOf 38 = .ok (.goto 4, 3) := by decide +kernel
set_option maxRecDepth 100000 in
theorem d_Md_placeOf_42 : decode b_Md_placeOf 42 = .ok (.ireturn, 1) := by decide +kernel
set_option maxRecDepth 100000 in
theorem d_Md_row_0 : decode b_Md_row 0 = .ok (.aload_n 0, 1) := by decide +kernel
set_option maxRecDepth 100000 in
theorem d_Md_row_1 : decode b_Md_row 1 = .ok (.iload_n 1, 1) := by decide +kernel
set_option maxRecDepth 100000 in
theorem d_Md_row_2 : decode b_Md_row 2 = .ok (.iload_n 2, 1) := by decide +kernel
set_option maxRecDepth 100000 in
theorem d_Md_row_3 : decode b_Md_row 3 = .ok (.iload_n 3, 1) := by decide +kernel
set_option maxRecDepth 100000 in
theorem d_Md_row_4 : decode b_Md_row 4 = .ok (.invokevirtual 306, 3) := by decide +kernel
set_option maxRecDepth 100000 in
theorem d_Md_row_7 : decode b_Md_row 7 = .ok (.ifCond .eq 15, 3) := by decide +kernel
set_option maxRecDepth 100000 in
theorem d_Md_row_22 : decode b_Md_row 22 = .ok (.iconst (-1), 1) := by decide +kernel
set_option maxRecDepth 100000 in
theorem d_Md_row_23 : decode b_Md_row 23 = .ok (.ireturn, 1) := by decide +kernel
set_option maxRecDepth 100000 in
theorem d_Md_rowOf_0 : decode b_Md_rowOf 0 = .ok (.iconst 0, 1) := by decide +kernel
set_option maxRecDepth 100000 in
theorem d_Md_rowOf_1 : decode b_Md_rowOf 1 = .ok (.istore_n 2, 1) := by decide +kernel
set_option maxRecDepth 100000 in
theorem d_Md_rowOf_2 : decode b_Md_rowOf 2 = .ok (.iload_n 2, 1) := by decide +kernel
set_option maxRecDepth 100000 in
theorem d_Md_rowOf_3 : decode b_Md_rowOf 3 = .ok (.aload_n 0, 1) := by decide +kernel
set_option maxRecDepth 100000 in
theorem d_Md_rowOf_4 : decode b_Md_rowOf 4 = .ok (.getfield 14, 3) := by decide +kernel
set_option maxRecDepth 100000 in
theorem d_Md_rowOf_7 : decode b_Md_rowOf 7 = .ok (.if_icmp .ge 44, 3) := by decide +kernel
set_option maxRecDepth 100000 in
theorem d_Md_rowOf_51 : decode b_Md_rowOf 51 = .ok (.iconst (-1), 1) := by decide +kernel
set_option maxRecDepth 100000 in
theorem d_Md_rowOf_52 : decode b_Md_rowOf 52 = .ok (.ireturn, 1) := by decide +kernel
set_option maxRecDepth 100000 in
theorem d_Md_served_0 : decode b_Md_served 0 = .ok (.iload_n 1, 1) := by decide +kernel
set_option maxRecDepth 100000 in
theorem d_Md_served_1 : decode b_Md_served 1 = .ok (.invokestatic 186, 3) := by decide +kernel
set_option maxRecDepth 100000 in
theorem d_Md_served_4 : decode b_Md_served 4 = .ok (.ifCond .ne 7, 3) := by decide +kernel
set_option maxRecDepth 100000 in
theorem d_Md_served_7 : decode b_Md_served 7 = .ok (.iconst (-1), 1) := by decide +kernel
set_option maxRecDepth 100000 in
theorem d_Md_served_8 : decode b_Md_served 8 = .ok (.goto 23, 3) := by decide +kernel
set_option maxRecDepth 100000 in
theorem d_Md_served_11 : decode b_Md_served 11 = .ok (.aload_n 0, 1) := by decide +kernel
set_option maxRecDepth 100000 in
theorem d_Md_served_12 : decode b_Md_served 12 = .ok (.getfield 58, 3) := by decide +kernel
set_option maxRecDepth 100000 in
theorem d_Md_served_15 : decode b_Md_served 15 = .ok (.iload_n 1, 1) := by decide +kernel
set_option maxRecDepth 100000 in
theorem d_Md_served_16 : decode b_Md_served 16 = .ok (.iaload, 1) := by decide +kernel
set_option maxRecDepth 100000 in
theorem d_Md_served_17 : decode b_Md_served 17 = .ok (.iconst 1, 1) := by decide +kernel
set_option maxRecDepth 100000 in
theorem d_Md_served_18 : decode b_Md_served 18 = .ok (.if_icmp .eq 8, 3) := by decide +kernel
set_option maxRecDepth 100000 in
theorem d_Md_served_21 : decode b_Md_served 21 = .ok (.bipush (-2), 2) := by decide +kernel
set_option maxRecDepth 100000 in
theorem d_Md_served_23 : decode b_Md_served 23 = .ok (.goto 8, 3) := by decide +kernel
set_option maxRecDepth 100000 in
theorem d_Md_served_31 : decode b_Md_served 31 = .ok (.ireturn, 1) := by decide +kernel
set_option maxRecDepth 100000 in
theorem d_Md_sink_0 : decode b_Md_sink 0 = .ok (.aload_n 0, 1) := by decide +kernel
set_option maxRecDepth 100000 in
theorem d_Md_sink_1 : decode b_Md_sink 1 = .ok (.iload_n 1, 1) := by decide +kernel
set_option maxRecDepth 100000 in
theorem d_Md_sink_2 : decode b_Md_sink 2 = .ok (.invokevirtual 209, 3) := by decide +kernel
set_option maxRecDepth 100000 in
theorem d_Md_sink_5 : decode b_Md_sink 5 = .ok (.ifCond .eq 11, 3) := by decide +kernel
set_option maxRecDepth 100000 in
theorem d_Md_sink_16 : decode b_Md_sink 16 = .ok (.iconst (-1), 1) := by decide +kernel
set_option maxRecDepth 100000 in
theorem d_Md_sink_17 : decode b_Md_sink 17 = .ok (.ireturn, 1) := by decide +kernel
set_option maxRecDepth 100000 in
theorem d_Md_stairs_0 : decode b_Md_stairs 0 = .ok (.iload_n 1, 1) := by decide +kernel
set_option maxRecDepth 100000 in
theorem d_Md_stairs_1 : decode b_Md_stairs 1 = .ok (.iconst 0, 1) := by decide +kernel
set_option maxRecDepth 100000 in
theorem d_Md_stairs_2 : decode b_Md_stairs 2 = .ok (.bipush 60, 2) := by decide +kernel
set_option maxRecDepth 100000 in
theorem d_Md_stairs_4 : decode b_Md_stairs 4 = .ok (.invokestatic 10, 3) := by decide +kernel
set_option maxRecDepth 100000 in
theorem d_Md_stairs_7 : decode b_Md_stairs 7 = .ok (.ifCond .eq 25, 3) := by decide +kernel
set_option maxRecDepth 100000 in
theorem d_Md_stairs_10 : decode b_Md_stairs 10 = .ok (.aload_n 0, 1) := by decide +kernel
set_option maxRecDepth 100000 in
theorem d_Md_stairs_11 : decode b_Md_stairs 11 = .ok (.getfield 14, 3) := by decide +kernel
set_option maxRecDepth 100000 in
theorem d_Md_stairs_14 : decode b_Md_stairs 14 = .ok (.ifCond .le 20, 3) := by decide +kernel
set_option maxRecDepth 100000 in
theorem d_Md_stairs_32 : decode b_Md_stairs 32 = .ok (.iconst (-1), 1) := by decide +kernel
set_option maxRecDepth 100000 in
theorem d_Md_stairs_33 : decode b_Md_stairs 33 = .ok (.ireturn, 1) := by decide +kernel
set_option maxRecDepth 100000 in
theorem d_Md_stairs_34 : decode b_Md_stairs 34 = .ok (.aload_n 0, 1) := by decide +kernel
set_option maxRecDepth 100000 in
theorem d_Md_stairs_35 : decode b_Md_stairs 35 = .ok (.getfield 14, 3) := by decide +kernel
set_option maxRecDepth 100000 in
theorem d_Md_stairs_38 : decode b_Md_stairs 38 = .ok (.bipush 12, 2) := by decide +kernel
set_option maxRecDepth 100000 in
theorem d_Md_stairs_40 : decode b_Md_stairs 40 = .ok (.if_icmp .ne 6, 3) := by decide +kernel
set_option maxRecDepth 100000 in
theorem d_Md_stairs_46 : decode b_Md_stairs 46 = .ok (.aload_n 0, 1) := by decide +kernel
set_option maxRecDepth 100000 in
theorem d_Md_stairs_47 : decode b_Md_stairs 47 = .ok (.getfield 32, 3) := by decide +kernel
set_option maxRecDepth 100000 in
theorem d_Md_stairs_50 : decode b_Md_stairs 50 = .ok (.aload_n 0, 1) := by decide +kernel
set_option maxRecDepth 100000 in
theorem d_Md_stairs_51 : decode b_Md_stairs 51 = .ok (.getfield 14, 3) := by decide +kernel
set_option maxRecDepth 100000 in
theorem d_Md_stairs_54 : decode b_Md_stairs 54 = .ok (.iload_n 1, 1) := by decide +kernel
set_option maxRecDepth 100000 in
theorem d_Md_stairs_55 : decode b_Md_stairs 55 = .ok (.iastore, 1) := by decide +kernel
set_option maxRecDepth 100000 in
theorem d_Md_stairs_56 : decode b_Md_stairs 56 = .ok (.aload_n 0, 1) := by decide +kernel
set_option maxRecDepth 100000 in
theorem d_Md_stairs_57 : decode b_Md_stairs 57 = .ok (.dup, 1) := by decide +kernel
set_option maxRecDepth 100000 in
theorem d_Md_stairs_58 : decode b_Md_stairs 58 = .ok (.getfield 14, 3) := by decide +kernel
set_option maxRecDepth 100000 in
theorem d_Md_stairs_61 : decode b_Md_stairs 61 = .ok (.iconst 1, 1) := by decide +kernel
set_option maxRecDepth 100000 in
theorem d_Md_stairs_62 : decode b_Md_stairs 62 = .ok (.iadd, 1) := by decide +kernel
set_option maxRecDepth 100000 in
theorem d_Md_stairs_63 : decode b_Md_stairs 63 = .ok (.putfield 14, 3) := by decide +kernel
set_option maxRecDepth 100000 in
theorem d_Md_stairs_66 : decode b_Md_stairs 66 = .ok (.aload_n 0, 1) := by decide +kernel
set_option maxRecDepth 100000 in
theorem d_Md_stairs_67 : decode b_Md_stairs 67 = .ok (.getfield 14, 3) := by decide +kernel
set_option maxRecDepth 100000 in
theorem d_Md_stairs_70 : decode b_Md_stairs 70 = .ok (.iconst 1, 1) := by decide +kernel
set_option maxRecDepth 100000 in
theorem d_Md_stairs_71 : decode b_Md_stairs 71 = .ok (.isub, 1) := by decide +kernel
set_option maxRecDepth 100000 in
theorem d_Md_stairs_72 : decode b_Md_stairs 72 = .ok (.ireturn, 1) := by decide +kernel
set_option maxRecDepth 100000 in
theorem d_Md_table_0 : decode b_Md_table 0 = .ok (.iload_n 1, 1) := by decide +kernel
set_option maxRecDepth 100000 in
theorem d_Md_table_1 : decode b_Md_table 1 = .ok (.iconst 0, 1) := by decide +kernel
set_option maxRecDepth 100000 in
theorem d_Md_table_2 : decode b_Md_table 2 = .ok (.bipush 11, 2) := by decide +kernel
set_option maxRecDepth 100000 in
theorem d_Md_table_4 : decode b_Md_table 4 = .ok (.invokestatic 10, 3) := by decide +kernel
set_option maxRecDepth 100000 in
theorem d_Md_table_7 : decode b_Md_table 7 = .ok (.ifCond .eq 14, 3) := by decide +kernel
set_option maxRecDepth 100000 in
theorem d_Md_table_10 : decode b_Md_table 10 = .ok (.iload_n 2, 1) := by decide +kernel
set_option maxRecDepth 100000 in
theorem d_Md_table_11 : decode b_Md_table 11 = .ok (.bipush (-90), 2) := by decide +kernel
set_option maxRecDepth 100000 in
theorem d_Md_table_13 : decode b_Md_table 13 = .ok (.bipush 90, 2) := by decide +kernel
set_option maxRecDepth 100000 in
theorem d_Md_table_15 : decode b_Md_table 15 = .ok (.invokestatic 10, 3) := by decide +kernel
set_option maxRecDepth 100000 in
theorem d_Md_table_18 : decode b_Md_table 18 = .ok (.ifCond .ne 7, 3) := by decide +kernel
set_option maxRecDepth 100000 in
theorem d_Md_table_21 : decode b_Md_table 21 = .ok (.sipush (-1000), 3) := by decide +kernel
set_option maxRecDepth 100000 in
theorem d_Md_table_24 : decode b_Md_table 24 = .ok (.ireturn, 1) := by decide +kernel
set_option maxRecDepth 100000 in
theorem d_Md_table_25 : decode b_Md_table 25 = .ok (.aload_n 0, 1) := by decide +kernel
set_option maxRecDepth 100000 in
theorem d_Md_table_26 : decode b_Md_table 26 = .ok (.getfield 25, 3) := by decide +kernel
set_option maxRecDepth 100000 in
theorem d_Md_table_29 : decode b_Md_table 29 = .ok (.iload_n 1, 1) := by decide +kernel
set_option maxRecDepth 100000 in
theorem d_Md_table_30 : decode b_Md_table 30 = .ok (.iaload, 1) := by decide +kernel
set_option maxRecDepth 100000 in
theorem d_Md_table_31 : decode b_Md_table 31 = .ok (.istore_n 3, 1) := by decide +kernel
set_option maxRecDepth 100000 in
theorem d_Md_table_32 : decode b_Md_table 32 = .ok (.aload_n 0, 1) := by decide +kernel
set_option maxRecDepth 100000 in
theorem d_Md_table_33 : decode b_Md_table 33 = .ok (.getfield 25, 3) := by decide +kernel
set_option maxRecDepth 100000 in
theorem d_Md_table_36 : decode b_Md_table 36 = .ok (.iload_n 1, 1) := by decide +kernel
set_option maxRecDepth 100000 in
theorem d_Md_table_37 : decode b_Md_table 37 = .ok (.iload_n 2, 1) := by decide +kernel
set_option maxRecDepth 100000 in
theorem d_Md_table_38 : decode b_Md_table 38 = .ok (.iastore, 1) := by decide +kernel
set_option maxRecDepth 100000 in
theorem d_Md_table_39 : decode b_Md_table 39 = .ok (.iload_n 3, 1) := by decide +kernel
set_option maxRecDepth 100000 in
theorem d_Md_table_40 : decode b_Md_table 40 = .ok (.ireturn, 1) := by decide +kernel
set_option maxRecDepth 100000 in
theorem d_Md_today_0 : decode b_Md_today 0 = .ok (.aload_n 0, 1) := by decide +kernel
set_option maxRecDepth 100000 in
theorem d_Md_today_1 : decode b_Md_today 1 = .ok (.getfield 7, 3) := by decide +kernel
set_option maxRecDepth 100000 in
theorem d_Md_today_4 : decode b_Md_today 4 = .ok (.sipush 720, 3) := by decide +kernel
set_option maxRecDepth 100000 in
theorem d_Md_today_7 : decode b_Md_today 7 = .ok (.idiv, 1) := by decide +kernel
set_option maxRecDepth 100000 in
theorem d_Md_today_8 : decode b_Md_today 8 = .ok (.ireturn, 1) := by decide +kernel
set_option maxRecDepth 100000 in
theorem d_Md_trip_0 : decode b_Md_trip 0 = .ok (.iload_n 1, 1) := by decide +kernel
set_option maxRecDepth 100000 in
theorem d_Md_trip_1 : decode b_Md_trip 1 = .ok (.iconst 0, 1) := by decide +kernel
set_option maxRecDepth 100000 in
theorem d_Md_trip_2 : decode b_Md_trip 2 = .ok (.aload_n 0, 1) := by decide +kernel
set_option maxRecDepth 100000 in
theorem d_Md_trip_3 : decode b_Md_trip 3 = .ok (.getfield 313, 3) := by decide +kernel
set_option maxRecDepth 100000 in
theorem d_Md_trip_6 : decode b_Md_trip 6 = .ok (.iconst 1, 1) := by decide +kernel
set_option maxRecDepth 100000 in
theorem d_Md_trip_7 : decode b_Md_trip 7 = .ok (.isub, 1) := by decide +kernel
set_option maxRecDepth 100000 in
theorem d_Md_trip_8 : decode b_Md_trip 8 = .ok (.invokestatic 10, 3) := by decide +kernel
set_option maxRecDepth 100000 in
theorem d_Md_trip_11 : decode b_Md_trip 11 = .ok (.ifCond .ne 6, 3) := by decide +kernel
set_option maxRecDepth 100000 in
theorem d_Md_trip_14 : decode b_Md_trip 14 = .ok (.bipush (-2), 2) := by decide +kernel
set_option maxRecDepth 100000 in
theorem d_Md_trip_16 : decode b_Md_trip 16 = .ok (.ireturn, 1) := by decide +kernel
set_option maxRecDepth 100000 in
theorem d_Md_why_0 : decode b_Md_why 0 = .ok (.aload_n 0, 1) := by decide +kernel
set_option maxRecDepth 100000 in
theorem d_Md_why_1 : decode b_Md_why 1 = .ok (.iload_n 1, 1) := by decide +kernel
set_option maxRecDepth 100000 in
theorem d_Md_why_2 : decode b_Md_why 2 = .ok (.iload_n 2, 1) := by decide +kernel
set_option maxRecDepth 100000 in
theorem d_Md_why_3 : decode b_Md_why 3 = .ok (.iload_n 3, 1) := by decide +kernel
set_option maxRecDepth 100000 in
theorem d_Md_why_4 : decode b_Md_why 4 = .ok (.invokevirtual 306, 3) := by decide +kernel
set_option maxRecDepth 100000 in
theorem d_Md_why_7 : decode b_Md_why 7 = .ok (.ifCond .eq 13, 3) := by decide +kernel
set_option maxRecDepth 100000 in
theorem d_Md_why_20 : decode b_Md_why 20 = .ok (.iconst (-1), 1) := by decide +kernel
set_option maxRecDepth 100000 in
theorem d_Md_why_21 : decode b_Md_why 21 = .ok (.ireturn, 1) := by decide +kernel
set_option maxRecDepth 100000 in
theorem d_Mn_init_0 : decode b_Mn_init 0 = .ok (.aload_n 0, 1) := by decide +kernel
set_option maxRecDepth 100000 in
theorem d_Mn_init_1 : decode b_Mn_init 1 = .ok (.invokespecial 3, 3) := by decide +kernel
set_option maxRecDepth 100000 in
theorem d_Mn_init_4 : decode b_Mn_init 4 = .ok (.aload_n 0, 1) := by decide +kernel
set_option maxRecDepth 100000 in
theorem d_Mn_init_5 : decode b_Mn_init 5 = .ok (.iconst 0, 1) := by decide +kernel
set_option maxRecDepth 100000 in
theorem d_Mn_init_6 : decode b_Mn_init 6 = .ok (.putfield 9, 3) := by decide +kernel
set_option maxRecDepth 100000 in
theorem d_Mn_init_9 : decode b_Mn_init 9 = .ok (.aload_n 0, 1) := by decide +kernel
set_option maxRecDepth 100000 in
theorem d_Mn_init_10 : decode b_Mn_init 10 = .ok (.iconst (-1), 1) := by decide +kernel
set_option maxRecDepth 100000 in
theorem d_Mn_init_11 : decode b_Mn_init 11 = .ok (.putfield 15, 3) := by decide +kernel
set_option maxRecDepth 100000 in
theorem d_Mn_init_14 : decode b_Mn_init 14 = .ok (.aload_n 0, 1) := by decide +kernel
set_option maxRecDepth 100000 in
theorem d_Mn_init_15 : decode b_Mn_init 15 = .ok (.iconst (-1), 1) := by decide +kernel
set_option maxRecDepth 100000 in
theorem d_Mn_init_16 : decode b_Mn_init 16 = .ok (.putfield 18, 3) := by decide +kernel
set_option maxRecDepth 100000 in
theorem d_Mn_init_19 : decode b_Mn_init 19 = .ok (.return_, 1) := by decide +kernel
set_option maxRecDepth 100000 in
theorem d_Mn_isOnWay_0 : decode b_Mn_isOnWay 0 = .ok (.iload_n 1, 1) := by decide +kernel
set_option maxRecDepth 100000 in
theorem d_Mn_isOnWay_1 : decode b_Mn_isOnWay 1 = .ok (.aload_n 0, 1) := by decide +kernel
set_option maxRecDepth 100000 in
theorem d_Mn_isOnWay_2 : decode b_Mn_isOnWay 2 = .ok (.getfield 21, 3) := by decide +kernel
set_option maxRecDepth 100000 in
theorem d_Mn_isOnWay_5 : decode b_Mn_isOnWay 5 = .ok (.if_icmp .ge 7, 3) := by decide +kernel
set_option maxRecDepth 100000 in
theorem d_Mn_isOnWay_8 : decode b_Mn_isOnWay 8 = .ok (.iconst 1, 1) := by decide +kernel
set_option maxRecDepth 100000 in
theorem d_Mn_isOnWay_9 : decode b_Mn_isOnWay 9 = .ok (.goto 4, 3) := by decide +kernel
set_option maxRecDepth 100000 in
theorem d_Mn_isOnWay_12 : decode b_Mn_isOnWay 12 = .ok (.iconst 0, 1) := by decide +kernel
set_option maxRecDepth 100000 in
theorem d_Mn_isOnWay_13 : decode b_Mn_isOnWay 13 = .ok (.ireturn, 1) := by decide +kernel
set_option maxRecDepth 100000 in
theorem d_Or_clear_0 : decode b_Or_clear 0 = .ok (.iconst 0, 1) := by decide +kernel
set_option maxRecDepth 100000 in
theorem d_Or_clear_1 : decode b_Or_clear 1 = .ok (.istore_n 1, 1) := by decide +kernel
set_option maxRecDepth 100000 in
theorem d_Or_clear_2 : decode b_Or_clear 2 = .ok (.iload_n 1, 1) := by decide +kernel
set_option maxRecDepth 100000 in
theorem d_Or_clear_3 : decode b_Or_clear 3 = .ok (.bipush 9, 2) := by decide +kernel
set_option maxRecDepth 100000 in
theorem d_Or_clear_5 : decode b_Or_clear 5 = .ok (.if_icmp .ge 16, 3) := by decide +kernel
set_option maxRecDepth 100000 in
theorem d_Or_clear_8 : decode b_Or_clear 8 = .ok (.aload_n 0, 1) := by decide +kernel
set_option maxRecDepth 100000 in
theorem d_Or_clear_9 : decode b_Or_clear 9 = .ok (.getfield 20, 3) := by decide +kernel
set_option maxRecDepth 100000 in
theorem d_Or_clear_12 : decode b_Or_clear 12 = .ok (.iload_n 1, 1) := by decide +kernel
set_option maxRecDepth 100000 in
theorem d_Or_clear_13 : decode b_Or_clear 13 = .ok (.iconst (-1), 1) := by decide +kernel
set_option maxRecDepth 100000 in
theorem d_Or_clear_14 : decode b_Or_clear 14 = .ok (.iastore, 1) := by decide +kernel
set_option maxRecDepth 100000 in
theorem d_Or_clear_15 : decode b_Or_clear 15 = .ok (.iinc 1 1, 3) := by decide +kernel
set_option maxRecDepth 100000 in
theorem d_Or_clear_18 : decode b_Or_clear 18 = .ok (.goto (-16), 3) := by decide +kernel
set_option maxRecDepth 100000 in
theorem d_Or_clear_21 : decode b_Or_clear 21 = .ok (.aload_n 0, 1) := by decide +kernel
set_option maxRecDepth 100000 in
theorem d_Or_clear_22 : decode b_Or_clear 22 = .ok (.iconst 0, 1) := by decide +kernel
set_option maxRecDepth 100000 in
theorem d_Or_clear_23 : decode b_Or_clear 23 = .ok (.putfield 23, 3) := by decide +kernel
set_option maxRecDepth 100000 in
theorem d_Or_clear_26 : decode b_Or_clear 26 = .ok (.aload_n 0, 1) := by decide +kernel
set_option maxRecDepth 100000 in
theorem d_Or_clear_27 : decode b_Or_clear 27 = .ok (.iconst 0, 1) := by decide +kernel
set_option maxRecDepth 100000 in
theorem d_Or_clear_28 : decode b_Or_clear 28 = .ok (.putfield 27, 3) := by decide +kernel
set_option maxRecDepth 100000 in
theorem d_Or_clear_31 : decode b_Or_clear 31 = .ok (.return_, 1) := by decide +kernel
set_option maxRecDepth 100000 in
theorem d_Or_init_0 : decode b_Or_init 0 = .ok (.aload_n 0, 1) := by decide +kernel
set_option maxRecDepth 100000 in
theorem d_Or_init_1 : decode b_Or_init 1 = .ok (.invokespecial 3, 3) := by decide +kernel
set_option maxRecDepth 100000 in
theorem d_Or_init_4 : decode b_Or_init 4 = .ok (.aload_n 0, 1) := by decide +kernel
set_option maxRecDepth 100000 in
theorem d_Or_init_5 : decode b_Or_init 5 = .ok (.bipush 36, 2) := by decide +kernel
set_option maxRecDepth 100000 in
theorem d_Or_init_7 : decode b_Or_init 7 = .ok (.newarray .int, 2) := by decide +kernel
set_option maxRecDepth 100000 in
theorem d_Or_init_9 : decode b_Or_init 9 = .ok (.putfield 9, 3) := by decide +kernel
set_option maxRecDepth 100000 in
theorem d_Or_init_12 : decode b_Or_init 12 = .ok (.aload_n 0, 1) := by decide +kernel
set_option maxRecDepth 100000 in
theorem d_Or_init_13 : decode b_Or_init 13 = .ok (.bipush 36, 2) := by decide +kernel
set_option maxRecDepth 100000 in
theorem d_Or_init_15 : decode b_Or_init 15 = .ok (.newarray .int, 2) := by decide +kernel
set_option maxRecDepth 100000 in
theorem d_Or_init_17 : decode b_Or_init 17 = .ok (.putfield 15, 3) := by decide +kernel
set_option maxRecDepth 100000 in
theorem d_Or_init_20 : decode b_Or_init 20 = .ok (.aload_n 0, 1) := by decide +kernel
set_option maxRecDepth 100000 in
theorem d_Or_init_21 : decode b_Or_init 21 = .ok (.bipush 9, 2) := by decide +kernel
set_option maxRecDepth 100000 in
theorem d_Or_init_23 : decode b_Or_init 23 = .ok (.newarray .int, 2) := by decide +kernel
set_option maxRecDepth 100000 in
theorem d_Or_init_25 : decode b_Or_init 25 = .ok (.putfield 20, 3) := by decide +kernel
set_option maxRecDepth 100000 in
theorem d_Or_init_28 : decode b_Or_init 28 = .ok (.return_, 1) := by decide +kernel
set_option maxRecDepth 100000 in
theorem d_Pn_init_0 : decode b_Pn_init 0 = .ok (.aload_n 0, 1) := by decide +kernel
set_option maxRecDepth 100000 in
theorem d_Pn_init_1 : decode b_Pn_init 1 = .ok (.invokespecial 1, 3) := by decide +kernel
set_option maxRecDepth 100000 in
theorem d_Pn_init_4 : decode b_Pn_init 4 = .ok (.aload_n 0, 1) := by decide +kernel
set_option maxRecDepth 100000 in
theorem d_Pn_init_5 : decode b_Pn_init 5 = .ok (.iload_n 1, 1) := by decide +kernel
set_option maxRecDepth 100000 in
theorem d_Pn_init_6 : decode b_Pn_init 6 = .ok (.putfield 7, 3) := by decide +kernel
set_option maxRecDepth 100000 in
theorem d_Pn_init_9 : decode b_Pn_init 9 = .ok (.aload_n 0, 1) := by decide +kernel
set_option maxRecDepth 100000 in
theorem d_Pn_init_10 : decode b_Pn_init 10 = .ok (.iload_n 2, 1) := by decide +kernel
set_option maxRecDepth 100000 in
theorem d_Pn_init_11 : decode b_Pn_init 11 = .ok (.putfield 13, 3) := by decide +kernel
set_option maxRecDepth 100000 in
theorem d_Pn_init_14 : decode b_Pn_init 14 = .ok (.return_, 1) := by decide +kernel
set_option maxRecDepth 100000 in
theorem d_Rv_addStairs_0 : decode b_Rv_addStairs 0 = .ok (.aload_n 0, 1) := by decide +kernel
set_option maxRecDepth 100000 in
theorem d_Rv_addStairs_1 : decode b_Rv_addStairs 1 = .ok (.getfield 9, 3) := by decide +kernel
set_option maxRecDepth 100000 in
theorem d_Rv_addStairs_4 : decode b_Rv_addStairs 4 = .ok (.aload_n 0, 1) := by decide +kernel
set_option maxRecDepth 100000 in
theorem d_Rv_addStairs_5 : decode b_Rv_addStairs 5 = .ok (.getfield 35, 3) := by decide +kernel
set_option maxRecDepth 100000 in
theorem d_Rv_addStairs_8 : decode b_Rv_addStairs 8 = .ok (.iload_n 1, 1) := by decide +kernel
set_option maxRecDepth 100000 in
theorem d_Rv_addStairs_9 : decode b_Rv_addStairs 9 = .ok (.iastore, 1) := by decide +kernel
set_option maxRecDepth 100000 in
theorem d_Rv_addStairs_10 : decode b_Rv_addStairs 10 = .ok (.aload_n 0, 1) := by decide +kernel
set_option maxRecDepth 100000 in
theorem d_Rv_addStairs_11 : decode b_Rv_addStairs 11 = .ok (.dup, 1) := by decide +kernel
set_option maxRecDepth 100000 in
theorem d_Rv_addStairs_12 : decode b_Rv_addStairs 12 = .ok (.getfield 35, 3) := by decide +kernel
set_option maxRecDepth 100000 in
theorem d_Rv_addStairs_15 : decode b_Rv_addStairs 15 = .ok (.iconst 1, 1) := by decide +kernel
set_option maxRecDepth 100000 in
theorem d_Rv_addStairs_16 : decode b_Rv_addStairs 16 = .ok (.iadd, 1) := by decide +kernel
set_option maxRecDepth 100000 in
theorem d_Rv_addStairs_17 : decode b_Rv_addStairs 17 = .ok (.putfield 35, 3) := by decide +kernel
set_option maxRecDepth 100000 in
theorem d_Rv_addStairs_20 : decode b_Rv_addStairs 20 = .ok (.aload_n 0, 1) := by decide +kernel
set_option maxRecDepth 100000 in
theorem d_Rv_addStairs_21 : decode b_Rv_addStairs 21 = .ok (.getfield 35, 3) := by decide +kernel
set_option maxRecDepth 100000 in
theorem d_Rv_addStairs_24 : decode b_Rv_addStairs 24 = .ok (.iconst 1, 1) := by decide +kernel
set_option maxRecDepth 100000 in
theorem d_Rv_addStairs_25 : decode b_Rv_addStairs 25 = .ok (.isub, 1) := by decide +kernel
set_option maxRecDepth 100000 in
theorem d_Rv_addStairs_26 : decode b_Rv_addStairs 26 = .ok (.ireturn, 1) := by decide +kernel
set_option maxRecDepth 100000 in
theorem d_Rv_flowIn_0 : decode b_Rv_flowIn 0 = .ok (.iload_n 2, 1) := by decide +kernel
set_option maxRecDepth 100000 in
theorem d_Rv_flowIn_1 : decode b_Rv_flowIn 1 = .ok (.bipush 11, 2) := by decide +kernel
set_option maxRecDepth 100000 in
theorem d_Rv_flowIn_3 : decode b_Rv_flowIn 3 = .ok (.if_icmp .ne 14, 3) := by decide +kernel
set_option maxRecDepth 100000 in
theorem d_Rv_flowIn_6 : decode b_Rv_flowIn 6 = .ok (.aload_n 0, 1) := by decide +kernel
set_option maxRecDepth 100000 in
theorem d_Rv_flowIn_7 : decode b_Rv_flowIn 7 = .ok (.iload_n 1, 1) := by decide +kernel
set_option maxRecDepth 100000 in
theorem d_Rv_flowIn_8 : decode b_Rv_flowIn 8 = .ok (.iconst 1, 1) := by decide +kernel
set_option maxRecDepth 100000 in
theorem d_Rv_flowIn_9 : decode b_Rv_flowIn 9 = .ok (.iadd, 1) := by decide +kernel
set_option maxRecDepth 100000 in
theorem d_Rv_flowIn_10 : decode b_Rv_flowIn 10 = .ok (.iconst 0, 1) := by decide +kernel
set_option maxRecDepth 100000 in
theorem d_Rv_flowIn_11 : decode b_Rv_flowIn 11 = .ok (.invokevirtual 51, 3) := by decide +kernel
set_option maxRecDepth 100000 in
theorem d_Rv_flowIn_14 : decode b_Rv_flowIn 14 = .ok (.goto 11, 3) := by decide +kernel
set_option maxRecDepth 100000 in
theorem d_Rv_flowIn_17 : decode b_Rv_flowIn 17 = .ok (.aload_n 0, 1) := by decide +kernel
set_option maxRecDepth 100000 in
theorem d_Rv_flowIn_18 : decode b_Rv_flowIn 18 = .ok (.iload_n 1, 1) := by decide +kernel
set_option maxRecDepth 100000 in
theorem d_Rv_flowIn_19 : decode b_Rv_flowIn 19 = .ok (.iload_n 2, 1) := by decide +kernel
set_option maxRecDepth 100000 in
theorem d_Rv_flowIn_20 : decode b_Rv_flowIn 20 = .ok (.iconst 1, 1) := by decide +kernel
set_option maxRecDepth 100000 in
theorem d_Rv_flowIn_21 : decode b_Rv_flowIn 21 = .ok (.iadd, 1) := by decide +kernel
set_option maxRecDepth 100000 in
theorem d_Rv_flowIn_22 : decode b_Rv_flowIn 22 = .ok (.invokevirtual 51, 3) := by decide +kernel
set_option maxRecDepth 100000 in
theorem d_Rv_flowIn_25 : decode b_Rv_flowIn 25 = .ok (.istore_n 3, 1) := by decide +kernel
set_option maxRecDepth 100000 in
theorem d_Rv_flowIn_26 : decode b_Rv_flowIn 26 = .ok (.iload_n 3, 1) := by decide +kernel
set_option maxRecDepth 100000 in
theorem d_Rv_flowIn_27 : decode b_Rv_flowIn 27 = .ok (.aload_n 0, 1) := by decide +kernel
set_option maxRecDepth 100000 in
theorem d_Rv_flowIn_28 : decode b_Rv_flowIn 28 = .ok (.iload_n 1, 1) := by decide +kernel
set_option maxRecDepth 100000 in
theorem d_Rv_flowIn_29 : decode b_Rv_flowIn 29 = .ok (.iload_n 2, 1) := by decide +kernel
set_option maxRecDepth 100000 in
theorem d_Rv_flowIn_30 : decode b_Rv_flowIn 30 = .ok (.invokevirtual 51, 3) := by decide +kernel
set_option maxRecDepth 100000 in
theorem d_Rv_flowIn_33 : decode b_Rv_flowIn 33 = .ok (.isub, 1) := by decide +kernel
set_option maxRecDepth 100000 in
theorem d_Rv_flowIn_34 : decode b_Rv_flowIn 34 = .ok (.ireturn, 1) := by decide +kernel
set_option maxRecDepth 100000 in
theorem d_Rv_hasStairs_0 : decode b_Rv_hasStairs 0 = .ok (.iload_n 1, 1) := by decide +kernel
set_option maxRecDepth 100000 in
theorem d_Rv_hasStairs_1 : decode b_Rv_hasStairs 1 = .ok (.ifCond .lt 15, 3) := by decide +kernel
set_option maxRecDepth 100000 in
theorem d_Rv_hasStairs_4 : decode b_Rv_hasStairs 4 = .ok (.iload_n 1, 1) := by decide +kernel
set_option maxRecDepth 100000 in
theorem d_Rv_hasStairs_5 : decode b_Rv_hasStairs 5 = .ok (.aload_n 0, 1) := by decide +kernel
set_option maxRecDepth 100000 in
theorem d_Rv_hasStairs_6 : decode b_Rv_hasStairs 6 = .ok (.getfield 35, 3) := by decide +kernel
set_option maxRecDepth 100000 in
theorem d_Rv_hasStairs_9 : decode b_Rv_hasStairs 9 = .ok (.if_icmp .ge 7, 3) := by decide +kernel
set_option maxRecDepth 100000 in
theorem d_Rv_hasStairs_16 : decode b_Rv_hasStairs 16 = .ok (.iconst 0, 1) := by decide +kernel
set_option maxRecDepth 100000 in
theorem d_Rv_hasStairs_17 : decode b_Rv_hasStairs 17 = .ok (.ireturn, 1) := by decide +kernel
set_option maxRecDepth 100000 in
theorem d_Rv_height_0 : decode b_Rv_height 0 = .ok (.iload_n 1, 1) := by decide +kernel
set_option maxRecDepth 100000 in
theorem d_Rv_height_1 : decode b_Rv_height 1 = .ok (.sipush 500, 3) := by decide +kernel
set_option maxRecDepth 100000 in
theorem d_Rv_height_4 : decode b_Rv_height 4 = .ok (.if_icmp .ge 12, 3) := by decide +kernel
set_option maxRecDepth 100000 in
theorem d_Rv_height_7 : decode b_Rv_height 7 = .ok (.aload_n 0, 1) := by decide +kernel
set_option maxRecDepth 100000 in
theorem d_Rv_height_8 : decode b_Rv_height 8 = .ok (.getfield 19, 3) := by decide +kernel
set_option maxRecDepth 100000 in
theorem d_Rv_height_11 : decode b_Rv_height 11 = .ok (.iload_n 1, 1) := by decide +kernel
set_option maxRecDepth 100000 in
theorem d_Rv_height_12 : decode b_Rv_height 12 = .ok (.aaload, 1) := by decide +kernel
set_option maxRecDepth 100000 in
theorem d_Rv_height_13 : decode b_Rv_height 13 = .ok (.goto 4, 3) := by decide +kernel
set_option maxRecDepth 100000 in
theorem d_Rv_height_16 : decode b_Rv_height 16 = .ok (.aconst_null, 1) := by decide +kernel
set_option maxRecDepth 100000 in
theorem d_Rv_height_17 : decode b_Rv_height 17 = .ok (.astore_n 3, 1) := by decide +kernel
set_option maxRecDepth 100000 in
theorem d_Rv_height_18 : decode b_Rv_height 18 = .ok (.aload_n 3, 1) := by decide +kernel
set_option maxRecDepth 100000 in
theorem d_Rv_height_19 : decode b_Rv_height 19 = .ok (.ifnonnull 17, 3) := by decide +kernel
set_option maxRecDepth 100000 in
theorem d_Rv_height_22 : decode b_Rv_height 22 = .ok (.aload_n 0, 1) := by decide +kernel
set_option maxRecDepth 100000 in
theorem d_Rv_height_23 : decode b_Rv_height 23 = .ok (.getfield 15, 3) := by decide +kernel
set_option maxRecDepth 100000 in
theorem d_Rv_height_26 : decode b_Rv_height 26 = .ok (.iload_n 2, 1) := by decide +kernel
set_option maxRecDepth 100000 in
theorem d_Rv_height_27 : decode b_Rv_height 27 = .ok (.iload_n 1, 1) := by decide +kernel
set_option maxRecDepth 100000 in
theorem d_Rv_height_28 : decode b_Rv_height 28 = .ok (.iadd, 1) := by decide +kernel
set_option maxRecDepth 100000 in
theorem d_Rv_height_29 : decode b_Rv_height 29 = .ok (.bipush 12, 2) := by decide +kernel
set_option maxRecDepth 100000 in
theorem d_Rv_height_31 : decode b_Rv_height 31 = .ok (.irem, 1) := by decide +kernel
set_option maxRecDepth 100000 in
theorem d_Rv_height_32 : decode b_Rv_height 32 = .ok (.iaload, 1) := by decide +kernel
set_option maxRecDepth 100000 in
theorem d_Rv_height_33 : decode b_Rv_height 33 = .ok (.goto 6, 3) := by decide +kernel
set_option maxRecDepth 100000 in
theorem d_Rv_height_39 : decode b_Rv_height 39 = .ok (.ireturn, 1) := by decide +kernel
set_option maxRecDepth 100000 in
theorem d_Rv_highest_0 : decode b_Rv_highest 0 = .ok (.aload_n 0, 1) := by decide +kernel
set_option maxRecDepth 100000 in
theorem d_Rv_highest_1 : decode b_Rv_highest 1 = .ok (.getfield 35, 3) := by decide +kernel
set_option maxRecDepth 100000 in
theorem d_Rv_highest_4 : decode b_Rv_highest 4 = .ok (.ifCond .ne 7, 3) := by decide +kernel
set_option maxRecDepth 100000 in
theorem d_Rv_highest_7 : decode b_Rv_highest 7 = .ok (.iconst (-1), 1) := by decide +kernel
set_option maxRecDepth 100000 in
theorem d_Rv_highest_8 : decode b_Rv_highest 8 = .ok (.goto 14, 3) := by decide +kernel
set_option maxRecDepth 100000 in
theorem d_Rv_highest_22 : decode b_Rv_highest 22 = .ok (.ireturn, 1) := by decide +kernel
set_option maxRecDepth 100000 in
theorem d_Rv_init_0 : decode b_Rv_init 0 = .ok (.aload_n 0, 1) := by decide +kernel
set_option maxRecDepth 100000 in
theorem d_Rv_init_1 : decode b_Rv_init 1 = .ok (.invokespecial 3, 3) := by decide +kernel
set_option maxRecDepth 100000 in
theorem d_Rv_init_4 : decode b_Rv_init 4 = .ok (.aload_n 0, 1) := by decide +kernel
set_option maxRecDepth 100000 in
theorem d_Rv_init_5 : decode b_Rv_init 5 = .ok (.bipush 12, 2) := by decide +kernel
set_option maxRecDepth 100000 in
theorem d_Rv_init_7 : decode b_Rv_init 7 = .ok (.newarray .int, 2) := by decide +kernel
set_option maxRecDepth 100000 in
theorem d_Rv_init_9 : decode b_Rv_init 9 = .ok (.putfield 9, 3) := by decide +kernel
set_option maxRecDepth 100000 in
theorem d_Rv_init_12 : decode b_Rv_init 12 = .ok (.aload_n 0, 1) := by decide +kernel
set_option maxRecDepth 100000 in
theorem d_Rv_init_13 : decode b_Rv_init 13 = .ok (.bipush 12, 2) := by decide +kernel
set_option maxRecDepth 100000 in
theorem d_Rv_init_15 : decode b_Rv_init 15 = .ok (.newarray .int, 2) := by decide +kernel
set_option maxRecDepth 100000 in
theorem d_Rv_init_17 : decode b_Rv_init 17 = .ok (.putfield 15, 3) := by decide +kernel
set_option maxRecDepth 100000 in
theorem d_Rv_init_20 : decode b_Rv_init 20 = .ok (.aload_n 0, 1) := by decide +kernel
set_option maxRecDepth 100000 in
theorem d_Rv_init_21 : decode b_Rv_init 21 = .ok (.sipush 500, 3) := by decide +kernel
set_option maxRecDepth 100000 in
theorem d_Rv_init_24 : decode b_Rv_init 24 = .ok (.anewarray 18, 3) := by decide +kernel
set_option maxRecDepth 100000 in
theorem d_Rv_init_27 : decode b_Rv_init 27 = .ok (.putfield 19, 3) := by decide +kernel
set_option maxRecDepth 100000 in
theorem d_Rv_init_30 : decode b_Rv_init 30 = .ok (.aload_n 0, 1) := by decide +kernel
set_option maxRecDepth 100000 in
theorem d_Rv_init_31 : decode b_Rv_init 31 = .ok (.sipush 500, 3) := by decide +kernel
set_option maxRecDepth 100000 in
theorem d_Rv_init_34 : decode b_Rv_init 34 = .ok (.newarray .boolean, 2) := by decide +kernel
set_option maxRecDepth 100000 in
theorem d_Rv_init_36 : decode b_Rv_init 36 = .ok (.putfield 23, 3) := by decide +kernel
set_option maxRecDepth 100000 in
theorem d_Rv_init_39 : decode b_Rv_init 39 = .ok (.aload_n 0, 1) := by decide +kernel
set_option maxRecDepth 100000 in
theorem d_Rv_init_40 : decode b_Rv_init 40 = .ok (.iconst (-1), 1) := by decide +kernel
set_option maxRecDepth 100000 in
theorem d_Rv_init_41 : decode b_Rv_init 41 = .ok (.putfield 27, 3) := by decide +kernel
set_option maxRecDepth 100000 in
theorem d_Rv_init_44 : decode b_Rv_init 44 = .ok (.return_, 1) := by decide +kernel
set_option maxRecDepth 100000 in
theorem d_Rv_isFrozen_0 : decode b_Rv_isFrozen 0 = .ok (.iload_n 1, 1) := by decide +kernel
set_option maxRecDepth 100000 in
theorem d_Rv_isFrozen_1 : decode b_Rv_isFrozen 1 = .ok (.invokestatic 31, 3) := by decide +kernel
set_option maxRecDepth 100000 in
theorem d_Rv_isFrozen_4 : decode b_Rv_isFrozen 4 = .ok (.ifCond .eq 16, 3) := by decide +kernel
set_option maxRecDepth 100000 in
theorem d_Rv_isFrozen_7 : decode b_Rv_isFrozen 7 = .ok (.aload_n 0, 1) := by decide +kernel
set_option maxRecDepth 100000 in
theorem d_Rv_isFrozen_8 : decode b_Rv_isFrozen 8 = .ok (.getfield 23, 3) := by decide +kernel
set_option maxRecDepth 100000 in
theorem d_Rv_isFrozen_11 : decode b_Rv_isFrozen 11 = .ok (.iload_n 1, 1) := by decide +kernel
set_option maxRecDepth 100000 in
theorem d_Rv_isFrozen_12 : decode b_Rv_isFrozen 12 = .ok (.baload, 1) := by decide +kernel
set_option maxRecDepth 100000 in
theorem d_Rv_isFrozen_13 : decode b_Rv_isFrozen 13 = .ok (.ifCond .eq 7, 3) := by decide +kernel
set_option maxRecDepth 100000 in
theorem d_Rv_isFrozen_20 : decode b_Rv_isFrozen 20 = .ok (.iconst 0, 1) := by decide +kernel
set_option maxRecDepth 100000 in
theorem d_Rv_isFrozen_21 : decode b_Rv_isFrozen 21 = .ok (.ireturn, 1) := by decide +kernel
set_option maxRecDepth 100000 in
theorem d_Rv_tell_0 : decode b_Rv_tell 0 = .ok (.aload_n 0, 1) := by decide +kernel
set_option maxRecDepth 100000 in
theorem d_Rv_tell_1 : decode b_Rv_tell 1 = .ok (.getfield 19, 3) := by decide +kernel
set_option maxRecDepth 100000 in
theorem d_Rv_tell_4 : decode b_Rv_tell 4 = .ok (.iload_n 1, 1) := by decide +kernel
set_option maxRecDepth 100000 in
theorem d_Rv_tell_5 : decode b_Rv_tell 5 = .ok (.aaload, 1) := by decide +kernel
set_option maxRecDepth 100000 in
theorem d_Rv_tell_6 : decode b_Rv_tell 6 = .ok (.astore 4, 2) := by decide +kernel
set_option maxRecDepth 100000 in
theorem d_Rv_tell_8 : decode b_Rv_tell 8 = .ok (.aload 4, 2) := by decide +kernel
set_option maxRecDepth 100000 in
theorem d_Rv_tell_10 : decode b_Rv_tell 10 = .ok (.ifnonnull 50, 3) := by decide +kernel
set_option maxRecDepth 100000 in
theorem d_Rv_tell_13 : decode b_Rv_tell 13 = .ok (.bipush 12, 2) := by decide +kernel
set_option maxRecDepth 100000 in
theorem d_Rv_tell_15 : decode b_Rv_tell 15 = .ok (.newarray .int, 2) := by decide +kernel
set_option maxRecDepth 100000 in
theorem d_Rv_tell_17 : decode b_Rv_tell 17 = .ok (.astore 4, 2) := by decide +kernel
set_option maxRecDepth 100000 in
theorem d_Rv_tell_19 : decode b_Rv_tell 19 = .ok (.iconst 0, 1) := by decide +kernel
set_option maxRecDepth 100000 in
theorem d_Rv_tell_20 : decode b_Rv_tell 20 = .ok (.istore 5, 2) := by decide +kernel
set_option maxRecDepth 100000 in
theorem d_Rv_tell_22 : decode b_Rv_tell 22 = .ok (.iload 5, 2) := by decide +kernel
set_option maxRecDepth 100000 in
theorem d_Rv_tell_24 : decode b_Rv_tell 24 = .ok (.bipush 12, 2) := by decide +kernel
set_option maxRecDepth 100000 in
theorem d_Rv_tell_26 : decode b_Rv_tell 26 = .ok (.if_icmp .ge 26, 3) := by decide +kernel
set_option maxRecDepth 100000 in
theorem d_Rv_tell_29 : decode b_Rv_tell 29 = .ok (.aload 4, 2) := by decide +kernel
set_option maxRecDepth 100000 in
theorem d_Rv_tell_31 : decode b_Rv_tell 31 = .ok (.iload 5, 2) := by decide +kernel
set_option maxRecDepth 100000 in
theorem d_Rv_tell_33 : decode b_Rv_tell 33 = .ok (.aload_n 0, 1) := by decide +kernel
set_option maxRecDepth 100000 in
theorem d_Rv_tell_34 : decode b_Rv_tell 34 = .ok (.getfield 15, 3) := by decide +kernel
set_option maxRecDepth 100000 in
theorem d_Rv_tell_37 : decode b_Rv_tell 37 = .ok (.iload 5, 2) := by decide +kernel
set_option maxRecDepth 100000 in
theorem d_Rv_tell_39 : decode b_Rv_tell 39 = .ok (.iload_n 1, 1) := by decide +kernel
set_option maxRecDepth 100000 in
theorem d_Rv_tell_40 : decode b_Rv_tell 40 = .ok (.iadd, 1) := by decide +kernel
set_option maxRecDepth 100000 in
theorem d_Rv_tell_41 : decode b_Rv_tell 41 = .ok (.bipush 12, 2) := by decide +kernel
set_option maxRecDepth 100000 in
theorem d_Rv_tell_43 : decode b_Rv_tell 43 = .ok (.irem, 1) := by decide +kernel
set_option maxRecDepth 100000 in
theorem d_Rv_tell_44 : decode b_Rv_tell 44 = .ok (.iaload, 1) := by decide +kernel
set_option maxRecDepth 100000 in
theorem d_Rv_tell_45 : decode b_Rv_tell 45 = .ok (.iastore, 1) := by decide +kernel
set_option maxRecDepth 100000 in
theorem d_Rv_tell_46 : decode b_Rv_tell 46 = .ok (.iinc 5 1, 3) := by decide +kernel
set_option maxRecDepth 100000 in
theorem d_Rv_tell_49 : decode b_Rv_tell 49 = .ok (.goto (-27), 3) := by decide +kernel
set_option maxRecDepth 100000 in
theorem d_Rv_tell_52 : decode b_Rv_tell 52 = .ok (.aload_n 0, 1) := by decide +kernel
set_option maxRecDepth 100000 in
theorem d_Rv_tell_53 : decode b_Rv_tell 53 = .ok (.getfield 19, 3) := by decide +kernel
set_option maxRecDepth 100000 in
theorem d_Rv_tell_56 : decode b_Rv_tell 56 = .ok (.iload_n 1, 1) := by decide +kernel
set_option maxRecDepth 100000 in
theorem d_Rv_tell_57 : decode b_Rv_tell 57 = .ok (.aload 4, 2) := by decide +kernel
set_option maxRecDepth 100000 in
theorem d_Rv_tell_59 : decode b_Rv_tell 59 = .ok (.aastore, 1) := by decide +kernel
set_option maxRecDepth 100000 in
theorem d_Rv_tell_60 : decode b_Rv_tell 60 = .ok (.aload 4, 2) := by decide +kernel
set_option maxRecDepth 100000 in
theorem d_Rv_tell_62 : decode b_Rv_tell 62 = .ok (.iload_n 2, 1) := by decide +kernel
set_option maxRecDepth 100000 in
theorem d_Rv_tell_63 : decode b_Rv_tell 63 = .ok (.iload_n 3, 1) := by decide +kernel
set_option maxRecDepth 100000 in
theorem d_Rv_tell_64 : decode b_Rv_tell 64 = .ok (.iastore, 1) := by decide +kernel
set_option maxRecDepth 100000 in
theorem d_Rv_tell_65 : decode b_Rv_tell 65 = .ok (.return_, 1) := by decide +kernel
set_option maxRecDepth 100000 in
theorem d_Tp_append_0 : decode b_Tp_append 0 = .ok (.aload_n 0, 1) := by decide +kernel
set_option maxRecDepth 100000 in
theorem d_Tp_append_1 : decode b_Tp_append 1 = .ok (.getfield 15, 3) := by decide +kernel
set_option maxRecDepth 100000 in
theorem d_Tp_append_4 : decode b_Tp_append 4 = .ok (.sipush 396, 3) := by decide +kernel
set_option maxRecDepth 100000 in
theorem d_Tp_append_7 : decode b_Tp_append 7 = .ok (.if_icmp .le 4, 3) := by decide +kernel
set_option maxRecDepth 100000 in
theorem d_Tp_append_11 : decode b_Tp_append 11 = .ok (.aload_n 0, 1) := by decide +kernel
set_option maxRecDepth 100000 in
theorem d_Tp_append_12 : decode b_Tp_append 12 = .ok (.getfield 9, 3) := by decide +kernel
set_option maxRecDepth 100000 in
theorem d_Tp_append_15 : decode b_Tp_append 15 = .ok (.aload_n 0, 1) := by decide +kernel
set_option maxRecDepth 100000 in
theorem d_Tp_append_16 : decode b_Tp_append 16 = .ok (.getfield 15, 3) := by decide +kernel
set_option maxRecDepth 100000 in
theorem d_Tp_append_19 : decode b_Tp_append 19 = .ok (.iload_n 1, 1) := by decide +kernel
set_option maxRecDepth 100000 in
theorem d_Tp_append_20 : decode b_Tp_append 20 = .ok (.bipush 24, 2) := by decide +kernel
set_option maxRecDepth 100000 in
theorem d_Tp_append_22 : decode b_Tp_append 22 = .ok (.iushr, 1) := by decide +kernel
set_option maxRecDepth 100000 in
theorem d_Tp_append_23 : decode b_Tp_append 23 = .ok (.i2b, 1) := by decide +kernel
set_option maxRecDepth 100000 in
theorem d_Tp_append_24 : decode b_Tp_append 24 = .ok (.bastore, 1) := by decide +kernel
set_option maxRecDepth 100000 in
theorem d_Tp_append_25 : decode b_Tp_append 25 = .ok (.aload_n 0, 1) := by decide +kernel
set_option maxRecDepth 100000 in
theorem d_Tp_append_26 : decode b_Tp_append 26 = .ok (.getfield 9, 3) := by decide +kernel
set_option maxRecDepth 100000 in
theorem d_Tp_append_29 : decode b_Tp_append 29 = .ok (.aload_n 0, 1) := by decide +kernel
set_option maxRecDepth 100000 in
theorem d_Tp_append_30 : decode b_Tp_append 30 = .ok (.getfield 15, 3) := by decide +kernel
set_option maxRecDepth 100000 in
theorem d_Tp_append_33 : decode b_Tp_append 33 = .ok (.iconst 1, 1) := by decide +kernel
set_option maxRecDepth 100000 in
theorem d_Tp_append_34 : decode b_Tp_append 34 = .ok (.iadd, 1) := by decide +kernel
set_option maxRecDepth 100000 in
theorem d_Tp_append_35 : decode b_Tp_append 35 = .ok (.iload_n 1, 1) := by decide +kernel
set_option maxRecDepth 100000 in
theorem d_Tp_append_36 : decode b_Tp_append 36 = .ok (.bipush 16, 2) := by decide +kernel
set_option maxRecDepth 100000 in
theorem d_Tp_append_38 : decode b_Tp_append 38 = .ok (.iushr, 1) := by decide +kernel
set_option maxRecDepth 100000 in
theorem d_Tp_append_39 : decode b_Tp_append 39 = .ok (.i2b, 1) := by decide +kernel
set_option maxRecDepth 100000 in
theorem d_Tp_append_40 : decode b_Tp_append 40 = .ok (.bastore, 1) := by decide +kernel
set_option maxRecDepth 100000 in
theorem d_Tp_append_41 : decode b_Tp_append 41 = .ok (.aload_n 0, 1) := by decide +kernel
set_option maxRecDepth 100000 in
theorem d_Tp_append_42 : decode b_Tp_append 42 = .ok (.getfield 9, 3) := by decide +kernel
set_option maxRecDepth 100000 in
theorem d_Tp_append_45 : decode b_Tp_append 45 = .ok (.aload_n 0, 1) := by decide +kernel
set_option maxRecDepth 100000 in
theorem d_Tp_append_46 : decode b_Tp_append 46 = .ok (.getfield 15, 3) := by decide +kernel
set_option maxRecDepth 100000 in
theorem d_Tp_append_49 : decode b_Tp_append 49 = .ok (.iconst 2, 1) := by decide +kernel
set_option maxRecDepth 100000 in
theorem d_Tp_append_50 : decode b_Tp_append 50 = .ok (.iadd, 1) := by decide +kernel
set_option maxRecDepth 100000 in
theorem d_Tp_append_51 : decode b_Tp_append 51 = .ok (.iload_n 1, 1) := by decide +kernel
set_option maxRecDepth 100000 in
theorem d_Tp_append_52 : decode b_Tp_append 52 = .ok (.bipush 8, 2) := by decide +kernel
set_option maxRecDepth 100000 in
theorem d_Tp_append_54 : decode b_Tp_append 54 = .ok (.iushr, 1) := by decide +kernel
set_option maxRecDepth 100000 in
theorem d_Tp_append_55 : decode b_Tp_append 55 = .ok (.i2b, 1) := by decide +kernel
set_option maxRecDepth 100000 in
theorem d_Tp_append_56 : decode b_Tp_append 56 = .ok (.bastore, 1) := by decide +kernel
set_option maxRecDepth 100000 in
theorem d_Tp_append_57 : decode b_Tp_append 57 = .ok (.aload_n 0, 1) := by decide +kernel
set_option maxRecDepth 100000 in
theorem d_Tp_append_58 : decode b_Tp_append 58 = .ok (.getfield 9, 3) := by decide +kernel
set_option maxRecDepth 100000 in
theorem d_Tp_append_61 : decode b_Tp_append 61 = .ok (.aload_n 0, 1) := by decide +kernel
set_option maxRecDepth 100000 in
theorem d_Tp_append_62 : decode b_Tp_append 62 = .ok (.getfield 15, 3) := by decide +kernel
set_option maxRecDepth 100000 in
theorem d_Tp_append_65 : decode b_Tp_append 65 = .ok (.iconst 3, 1) := by decide +kernel
set_option maxRecDepth 100000 in
theorem d_Tp_append_66 : decode b_Tp_append 66 = .ok (.iadd, 1) := by decide +kernel
set_option maxRecDepth 100000 in
theorem d_Tp_append_67 : decode b_Tp_append 67 = .ok (.iload_n 1, 1) := by decide +kernel
set_option maxRecDepth 100000 in
theorem d_Tp_append_68 : decode b_Tp_append 68 = .ok (.i2b, 1) := by decide +kernel
set_option maxRecDepth 100000 in
theorem d_Tp_append_69 : decode b_Tp_append 69 = .ok (.bastore, 1) := by decide +kernel
set_option maxRecDepth 100000 in
theorem d_Tp_append_70 : decode b_Tp_append 70 = .ok (.aload_n 0, 1) := by decide +kernel
set_option maxRecDepth 100000 in
theorem d_Tp_append_71 : decode b_Tp_append 71 = .ok (.dup, 1) := by decide +kernel
set_option maxRecDepth 100000 in
theorem d_Tp_append_72 : decode b_Tp_append 72 = .ok (.getfield 15, 3) := by decide +kernel
set_option maxRecDepth 100000 in
theorem d_Tp_append_75 : decode b_Tp_append 75 = .ok (.iconst 4, 1) := by decide +kernel
set_option maxRecDepth 100000 in
theorem d_Tp_append_76 : decode b_Tp_append 76 = .ok (.iadd, 1) := by decide +kernel
set_option maxRecDepth 100000 in
theorem d_Tp_append_77 : decode b_Tp_append 77 = .ok (.putfield 15, 3) := by decide +kernel
set_option maxRecDepth 100000 in
theorem d_Tp_append_80 : decode b_Tp_append 80 = .ok (.return_, 1) := by decide +kernel
set_option maxRecDepth 100000 in
theorem d_Tp_hasRoomForFive_0 : decode b_Tp_hasRoomForFive 0 = .ok (.aload_n 0, 1) := by decide +kernel
set_option maxRecDepth 100000 in
theorem d_Tp_hasRoomForFive_1 : decode b_Tp_hasRoomForFive 1 = .ok (.getfield 15, 3) := by decide +kernel
set_option maxRecDepth 100000 in
theorem d_Tp_hasRoomForFive_4 : decode b_Tp_hasRoomForFive 4 = .ok (.sipush 380, 3) := by decide +kernel
set_option maxRecDepth 100000 in
theorem d_Tp_hasRoomForFive_7 : decode b_Tp_hasRoomForFive 7 = .ok (.if_icmp .gt 7, 3) := by decide +kernel
set_option maxRecDepth 100000 in
theorem d_Tp_hasRoomForFive_10 : decode b_Tp_hasRoomForFive 10 = .ok (.iconst 1, 1) := by decide +kernel
set_option maxRecDepth 100000 in
theorem d_Tp_hasRoomForFive_11 : decode b_Tp_hasRoomForFive 11 = .ok (.goto 4, 3) := by decide +kernel
set_option maxRecDepth 100000 in
theorem d_Tp_hasRoomForFive_15 : decode b_Tp_hasRoomForFive 15 = .ok (.ireturn, 1) := by decide +kernel
set_option maxRecDepth 100000 in
theorem d_Tp_init_0 : decode b_Tp_init 0 = .ok (.aload_n 0, 1) := by decide +kernel
set_option maxRecDepth 100000 in
theorem d_Tp_init_1 : decode b_Tp_init 1 = .ok (.invokespecial 3, 3) := by decide +kernel
set_option maxRecDepth 100000 in
theorem d_Tp_init_4 : decode b_Tp_init 4 = .ok (.aload_n 0, 1) := by decide +kernel
set_option maxRecDepth 100000 in
theorem d_Tp_init_5 : decode b_Tp_init 5 = .ok (.sipush 400, 3) := by decide +kernel
set_option maxRecDepth 100000 in
theorem d_Tp_init_8 : decode b_Tp_init 8 = .ok (.newarray .byte, 2) := by decide +kernel
set_option maxRecDepth 100000 in
theorem d_Tp_init_10 : decode b_Tp_init 10 = .ok (.putfield 9, 3) := by decide +kernel
set_option maxRecDepth 100000 in
theorem d_Tp_init_13 : decode b_Tp_init 13 = .ok (.return_, 1) := by decide +kernel
set_option maxRecDepth 100000 in
theorem d_Tp_readInto_0 : decode b_Tp_readInto 0 = .ok (.aload_n 1, 1) := by decide +kernel
set_option maxRecDepth 100000 in
theorem d_Tp_readInto_1 : decode b_Tp_readInto 1 = .ok (.invokevirtual 19, 3) := by decide +kernel
set_option maxRecDepth 100000 in
theorem d_Tp_readInto_4 : decode b_Tp_readInto 4 = .ok (.aload_n 0, 1) := by decide +kernel
set_option maxRecDepth 100000 in
theorem d_Tp_readInto_5 : decode b_Tp_readInto 5 = .ok (.iconst 0, 1) := by decide +kernel
set_option maxRecDepth 100000 in
theorem d_Tp_readInto_6 : decode b_Tp_readInto 6 = .ok (.putfield 24, 3) := by decide +kernel
set_option maxRecDepth 100000 in
theorem d_Tp_readInto_9 : decode b_Tp_readInto 9 = .ok (.aload_n 0, 1) := by decide +kernel
set_option maxRecDepth 100000 in
theorem d_Tp_readInto_10 : decode b_Tp_readInto 10 = .ok (.invokevirtual 27, 3) := by decide +kernel
set_option maxRecDepth 100000 in
theorem d_Tp_readInto_13 : decode b_Tp_readInto 13 = .ok (.iconst 0, 1) := by decide +kernel
set_option maxRecDepth 100000 in
theorem d_Tp_readInto_14 : decode b_Tp_readInto 14 = .ok (.istore_n 2, 1) := by decide +kernel
set_option maxRecDepth 100000 in
theorem d_Tp_readInto_15 : decode b_Tp_readInto 15 = .ok (.iload_n 2, 1) := by decide +kernel
set_option maxRecDepth 100000 in
theorem d_Tp_readInto_16 : decode b_Tp_readInto 16 = .ok (.sipush 400, 3) := by decide +kernel
set_option maxRecDepth 100000 in
theorem d_Tp_readInto_19 : decode b_Tp_readInto 19 = .ok (.if_icmp .gt 31, 3) := by decide +kernel
set_option maxRecDepth 100000 in
theorem d_Tp_readInto_22 : decode b_Tp_readInto 22 = .ok (.aload_n 0, 1) := by decide +kernel
set_option maxRecDepth 100000 in
theorem d_Tp_readInto_23 : decode b_Tp_readInto 23 = .ok (.aload_n 1, 1) := by decide +kernel
set_option maxRecDepth 100000 in
theorem d_Tp_readInto_24 : decode b_Tp_readInto 24 = .ok (.invokevirtual 30, 3) := by decide +kernel
set_option maxRecDepth 100000 in
theorem d_Tp_readInto_27 : decode b_Tp_readInto 27 = .ok (.ifCond .ne 8, 3) := by decide +kernel
set_option maxRecDepth 100000 in
theorem d_Tp_readInto_30 : decode b_Tp_readInto 30 = .ok (.aload_n 0, 1) := by decide +kernel
set_option maxRecDepth 100000 in
theorem d_Tp_readInto_31 : decode b_Tp_readInto 31 = .ok (.getfield 34, 3) := by decide +kernel
set_option maxRecDepth 100000 in
theorem d_Tp_readInto_34 : decode b_Tp_readInto 34 = .ok (.ireturn, 1) := by decide +kernel
set_option maxRecDepth 100000 in
theorem d_Tp_readLine_0 : decode b_Tp_readLine 0 = .ok (.aload_n 0, 1) := by decide +kernel
set_option maxRecDepth 100000 in
theorem d_Tp_readLine_1 : decode b_Tp_readLine 1 = .ok (.getfield 37, 3) := by decide +kernel
set_option maxRecDepth 100000 in
theorem d_Tp_readLine_4 : decode b_Tp_readLine 4 = .ok (.iconst 1, 1) := by decide +kernel
set_option maxRecDepth 100000 in
theorem d_Tp_readLine_5 : decode b_Tp_readLine 5 = .ok (.if_icmp .ne 10, 3) := by decide +kernel
set_option maxRecDepth 100000 in
theorem d_Tp_readLine_15 : decode b_Tp_readLine 15 = .ok (.iconst (-1), 1) := by decide +kernel
set_option maxRecDepth 100000 in
theorem d_Tp_readLine_16 : decode b_Tp_readLine 16 = .ok (.istore_n 2, 1) := by decide +kernel
set_option maxRecDepth 100000 in
theorem d_Tp_readLine_17 : decode b_Tp_readLine 17 = .ok (.iload_n 2, 1) := by decide +kernel
set_option maxRecDepth 100000 in
theorem d_Tp_readLine_18 : decode b_Tp_readLine 18 = .ok (.iconst (-1), 1) := by decide +kernel
set_option maxRecDepth 100000 in
theorem d_Tp_readLine_19 : decode b_Tp_readLine 19 = .ok (.if_icmp .eq 11, 3) := by decide +kernel
set_option maxRecDepth 100000 in
theorem d_Tp_readLine_30 : decode b_Tp_readLine 30 = .ok (.iconst 0, 1) := by decide +kernel
set_option maxRecDepth 100000 in
theorem d_Tp_readLine_31 : decode b_Tp_readLine 31 = .ok (.ireturn, 1) := by decide +kernel
set_option maxRecDepth 100000 in
theorem d_Tp_step_0 : decode b_Tp_step 0 = .ok (.aload_n 0, 1) := by decide +kernel
set_option maxRecDepth 100000 in
theorem d_Tp_step_1 : decode b_Tp_step 1 = .ok (.aload_n 0, 1) := by decide +kernel
set_option maxRecDepth 100000 in
theorem d_Tp_step_2 : decode b_Tp_step 2 = .ok (.getfield 24, 3) := by decide +kernel
set_option maxRecDepth 100000 in
theorem d_Tp_step_5 : decode b_Tp_step 5 = .ok (.putfield 34, 3) := by decide +kernel
set_option maxRecDepth 100000 in
theorem d_Tp_step_8 : decode b_Tp_step 8 = .ok (.aload_n 0, 1) := by decide +kernel
set_option maxRecDepth 100000 in
theorem d_Tp_step_9 : decode b_Tp_step 9 = .ok (.getfield 34, 3) := by decide +kernel
set_option maxRecDepth 100000 in
theorem d_Tp_step_12 : decode b_Tp_step 12 = .ok (.aload_n 0, 1) := by decide +kernel
set_option maxRecDepth 100000 in
theorem d_Tp_step_13 : decode b_Tp_step 13 = .ok (.getfield 15, 3) := by decide +kernel
set_option maxRecDepth 100000 in
theorem d_Tp_step_16 : decode b_Tp_step 16 = .ok (.if_icmp .ge 30, 3) := by decide +kernel
set_option maxRecDepth 100000 in
theorem d_Tp_step_46 : decode b_Tp_step 46 = .ok (.aload_n 0, 1) := by decide +kernel
set_option maxRecDepth 100000 in
theorem d_Tp_step_47 : decode b_Tp_step 47 = .ok (.aload_n 0, 1) := by decide +kernel
set_option maxRecDepth 100000 in
theorem d_Tp_step_48 : decode b_Tp_step 48 = .ok (.getfield 34, 3) := by decide +kernel
set_option maxRecDepth 100000 in
theorem d_Tp_step_51 : decode b_Tp_step 51 = .ok (.putfield 24, 3) := by decide +kernel
set_option maxRecDepth 100000 in
theorem d_Tp_step_54 : decode b_Tp_step 54 = .ok (.aload_n 0, 1) := by decide +kernel
set_option maxRecDepth 100000 in
theorem d_Tp_step_55 : decode b_Tp_step 55 = .ok (.iconst 0, 1) := by decide +kernel
set_option maxRecDepth 100000 in
theorem d_Tp_step_56 : decode b_Tp_step 56 = .ok (.putfield 48, 3) := by decide +kernel
set_option maxRecDepth 100000 in
theorem d_Tp_step_59 : decode b_Tp_step 59 = .ok (.aload_n 0, 1) := by decide +kernel
set_option maxRecDepth 100000 in
theorem d_Tp_step_60 : decode b_Tp_step 60 = .ok (.getfield 34, 3) := by decide +kernel
set_option maxRecDepth 100000 in
theorem d_Tp_step_63 : decode b_Tp_step 63 = .ok (.aload_n 0, 1) := by decide +kernel
set_option maxRecDepth 100000 in
theorem d_Tp_step_64 : decode b_Tp_step 64 = .ok (.getfield 15, 3) := by decide +kernel
set_option maxRecDepth 100000 in
theorem d_Tp_step_67 : decode b_Tp_step 67 = .ok (.if_icmp .lt 11, 3) := by decide +kernel
set_option maxRecDepth 100000 in
theorem d_Tp_step_70 : decode b_Tp_step 70 = .ok (.aload_n 0, 1) := by decide +kernel
set_option maxRecDepth 100000 in
theorem d_Tp_step_71 : decode b_Tp_step 71 = .ok (.iconst 0, 1) := by decide +kernel
set_option maxRecDepth 100000 in
theorem d_Tp_step_72 : decode b_Tp_step 72 = .ok (.putfield 37, 3) := by decide +kernel
set_option maxRecDepth 100000 in
theorem d_Tp_step_75 : decode b_Tp_step 75 = .ok (.goto 107, 3) := by decide +kernel
set_option maxRecDepth 100000 in
theorem d_Tp_step_182 : decode b_Tp_step 182 = .ok (.return_, 1) := by decide +kernel
set_option maxRecDepth 100000 in
theorem d_WM_absent_0 : decode b_WM_absent 0 = .ok (.aload_n 0, 1) := by decide +kernel
set_option maxRecDepth 100000 in
theorem d_WM_absent_1 : decode b_WM_absent 1 = .ok (.iload_n 1, 1) := by decide +kernel
set_option maxRecDepth 100000 in
theorem d_WM_absent_2 : decode b_WM_absent 2 = .ok (.invokevirtual 107, 3) := by decide +kernel
set_option maxRecDepth 100000 in
theorem d_WM_absent_5 : decode b_WM_absent 5 = .ok (.astore 4, 2) := by decide +kernel
set_option maxRecDepth 100000 in
theorem d_WM_absent_7 : decode b_WM_absent 7 = .ok (.aload 4, 2) := by decide +kernel
set_option maxRecDepth 100000 in
theorem d_WM_absent_9 : decode b_WM_absent 9 = .ok (.ifnull 20, 3) := by decide +kernel
set_option maxRecDepth 100000 in
theorem d_WM_absent_12 : decode b_WM_absent 12 = .ok (.iload_n 2, 1) := by decide +kernel
set_option maxRecDepth 100000 in
theorem d_WM_absent_13 : decode b_WM_absent 13 = .ok (.ifCond .lt 16, 3) := by decide +kernel
set_option maxRecDepth 100000 in
theorem d_WM_absent_16 : decode b_WM_absent 16 = .ok (.iload_n 2, 1) := by decide +kernel
set_option maxRecDepth 100000 in
theorem d_WM_absent_17 : decode b_WM_absent 17 = .ok (.iload_n 3, 1) := by decide +kernel
set_option maxRecDepth 100000 in
theorem d_WM_absent_18 : decode b_WM_absent 18 = .ok (.if_icmp .gt 11, 3) := by decide +kernel
set_option maxRecDepth 100000 in
theorem d_WM_absent_21 : decode b_WM_absent 21 = .ok (.iload_n 3, 1) := by decide +kernel
set_option maxRecDepth 100000 in
theorem d_WM_absent_22 : decode b_WM_absent 22 = .ok (.aload_n 0, 1) := by decide +kernel
set_option maxRecDepth 100000 in
theorem d_WM_absent_23 : decode b_WM_absent 23 = .ok (.invokevirtual 97, 3) := by decide +kernel
set_option maxRecDepth 100000 in
theorem d_WM_absent_26 : decode b_WM_absent 26 = .ok (.if_icmp .le 5, 3) := by decide +kernel
set_option maxRecDepth 100000 in
theorem d_WM_absent_29 : decode b_WM_absent 29 = .ok (.iconst (-1), 1) := by decide +kernel
set_option maxRecDepth 100000 in
theorem d_WM_absent_30 : decode b_WM_absent 30 = .ok (.ireturn, 1) := by decide +kernel
set_option maxRecDepth 100000 in
theorem d_WM_absent_31 : decode b_WM_absent 31 = .ok (.aload 4, 2) := by decide +kernel
set_option maxRecDepth 100000 in
theorem d_WM_absent_33 : decode b_WM_absent 33 = .ok (.getfield 119, 3) := by decide +kernel
set_option maxRecDepth 100000 in
theorem d_WM_absent_36 : decode b_WM_absent 36 = .ok (.astore 5, 2) := by decide +kernel
set_option maxRecDepth 100000 in
theorem d_WM_absent_38 : decode b_WM_absent 38 = .ok (.aload 5, 2) := by decide +kernel
set_option maxRecDepth 100000 in
theorem d_WM_absent_40 : decode b_WM_absent 40 = .ok (.ifnull 14, 3) := by decide +kernel
set_option maxRecDepth 100000 in
theorem d_WM_absent_54 : decode b_WM_absent 54 = .ok (.aload 5, 2) := by decide +kernel
set_option maxRecDepth 100000 in
theorem d_WM_absent_56 : decode b_WM_absent 56 = .ok (.ifnull 22, 3) := by decide +kernel
set_option maxRecDepth 100000 in
theorem d_WM_absent_78 : decode b_WM_absent 78 = .ok (.bipush (-2), 2) := by decide +kernel
set_option maxRecDepth 100000 in
theorem d_WM_absent_80 : decode b_WM_absent 80 = .ok (.ireturn, 1) := by decide +kernel
set_option maxRecDepth 100000 in
theorem d_WM_bind_0 : decode b_WM_bind 0 = .ok (.aload_n 0, 1) := by decide +kernel
set_option maxRecDepth 100000 in
theorem d_WM_bind_1 : decode b_WM_bind 1 = .ok (.iload_n 1, 1) := by decide +kernel
set_option maxRecDepth 100000 in
theorem d_WM_bind_2 : decode b_WM_bind 2 = .ok (.invokevirtual 107, 3) := by decide +kernel
set_option maxRecDepth 100000 in
theorem d_WM_bind_5 : decode b_WM_bind 5 = .ok (.astore_n 3, 1) := by decide +kernel
set_option maxRecDepth 100000 in
theorem d_WM_bind_6 : decode b_WM_bind 6 = .ok (.aload_n 0, 1) := by decide +kernel
set_option maxRecDepth 100000 in
theorem d_WM_bind_7 : decode b_WM_bind 7 = .ok (.iload_n 2, 1) := by decide +kernel
set_option maxRecDepth 100000 in
theorem d_WM_bind_8 : decode b_WM_bind 8 = .ok (.invokevirtual 107, 3) := by decide +kernel
set_option maxRecDepth 100000 in
theorem d_WM_bind_11 : decode b_WM_bind 11 = .ok (.astore 4, 2) := by decide +kernel
set_option maxRecDepth 100000 in
theorem d_WM_bind_13 : decode b_WM_bind 13 = .ok (.aload_n 3, 1) := by decide +kernel
set_option maxRecDepth 100000 in
theorem d_WM_bind_14 : decode b_WM_bind 14 = .ok (.ifnull 8, 3) := by decide +kernel
set_option maxRecDepth 100000 in
theorem d_WM_bind_17 : decode b_WM_bind 17 = .ok (.aload 4, 2) := by decide +kernel
set_option maxRecDepth 100000 in
theorem d_WM_bind_19 : decode b_WM_bind 19 = .ok (.ifnonnull 5, 3) := by decide +kernel
set_option maxRecDepth 100000 in
theorem d_WM_bind_22 : decode b_WM_bind 22 = .ok (.iconst (-1), 1) := by decide +kernel
set_option maxRecDepth 100000 in
theorem d_WM_bind_23 : decode b_WM_bind 23 = .ok (.ireturn, 1) := by decide +kernel
set_option maxRecDepth 100000 in
theorem d_WM_bind_24 : decode b_WM_bind 24 = .ok (.aload_n 3, 1) := by decide +kernel
set_option maxRecDepth 100000 in
theorem d_WM_bind_25 : decode b_WM_bind 25 = .ok (.getfield 111, 3) := by decide +kernel
set_option maxRecDepth 100000 in
theorem d_WM_bind_28 : decode b_WM_bind 28 = .ok (.ifCond .ne 12, 3) := by decide +kernel
set_option maxRecDepth 100000 in
theorem d_WM_bind_31 : decode b_WM_bind 31 = .ok (.aload 4, 2) := by decide +kernel
set_option maxRecDepth 100000 in
theorem d_WM_bind_33 : decode b_WM_bind 33 = .ok (.getfield 111, 3) := by decide +kernel
set_option maxRecDepth 100000 in
theorem d_WM_bind_36 : decode b_WM_bind 36 = .ok (.iconst 2, 1) := by decide +kernel
set_option maxRecDepth 100000 in
theorem d_WM_bind_37 : decode b_WM_bind 37 = .ok (.if_icmp .eq 6, 3) := by decide +kernel
set_option maxRecDepth 100000 in
theorem d_WM_bind_40 : decode b_WM_bind 40 = .ok (.bipush (-2), 2) := by decide +kernel
set_option maxRecDepth 100000 in
theorem d_WM_bind_42 : decode b_WM_bind 42 = .ok (.ireturn, 1) := by decide +kernel
set_option maxRecDepth 100000 in
theorem d_WM_boat_0 : decode b_WM_boat 0 = .ok (.iload_n 1, 1) := by decide +kernel
set_option maxRecDepth 100000 in
theorem d_WM_boat_1 : decode b_WM_boat 1 = .ok (.invokestatic 164, 3) := by decide +kernel
set_option maxRecDepth 100000 in
theorem d_WM_boat_4 : decode b_WM_boat 4 = .ok (.ifCond .eq 14, 3) := by decide +kernel
set_option maxRecDepth 100000 in
theorem d_WM_boat_7 : decode b_WM_boat 7 = .ok (.aload_n 0, 1) := by decide +kernel
set_option maxRecDepth 100000 in
theorem d_WM_boat_8 : decode b_WM_boat 8 = .ok (.getfield 12, 3) := by decide +kernel
set_option maxRecDepth 100000 in
theorem d_WM_boat_11 : decode b_WM_boat 11 = .ok (.iload_n 2, 1) := by decide +kernel
set_option maxRecDepth 100000 in
theorem d_WM_boat_12 : decode b_WM_boat 12 = .ok (.invokevirtual 167, 3) := by decide +kernel
set_option maxRecDepth 100000 in
theorem d_WM_boat_15 : decode b_WM_boat 15 = .ok (.ifCond .ne 5, 3) := by decide +kernel
set_option maxRecDepth 100000 in
theorem d_WM_boat_18 : decode b_WM_boat 18 = .ok (.iconst (-1), 1) := by decide +kernel
set_option maxRecDepth 100000 in
theorem d_WM_boat_19 : decode b_WM_boat 19 = .ok (.ireturn, 1) := by decide +kernel
set_option maxRecDepth 100000 in
theorem d_WM_boatAt_0 : decode b_WM_boatAt 0 = .ok (.iload_n 1, 1) := by decide +kernel
set_option maxRecDepth 100000 in
theorem d_WM_boatAt_1 : decode b_WM_boatAt 1 = .ok (.ifCond .lt 20, 3) := by decide +kernel
set_option maxRecDepth 100000 in
theorem d_WM_boatAt_4 : decode b_WM_boatAt 4 = .ok (.iload_n 1, 1) := by decide +kernel
set_option maxRecDepth 100000 in
theorem d_WM_boatAt_5 : decode b_WM_boatAt 5 = .ok (.aload_n 0, 1) := by decide +kernel
set_option maxRecDepth 100000 in
theorem d_WM_boatAt_6 : decode b_WM_boatAt 6 = .ok (.getfield 170, 3) := by decide +kernel
set_option maxRecDepth 100000 in
theorem d_WM_boatAt_9 : decode b_WM_boatAt 9 = .ok (.if_icmp .ge 12, 3) := by decide +kernel
set_option maxRecDepth 100000 in
theorem d_WM_boatAt_21 : decode b_WM_boatAt 21 = .ok (.aconst_null, 1) := by decide +kernel
set_option maxRecDepth 100000 in
theorem d_WM_boatAt_22 : decode b_WM_boatAt 22 = .ok (.areturn, 1) := by decide +kernel
set_option maxRecDepth 100000 in
theorem d_WM_bridge_0 : decode b_WM_bridge 0 = .ok (.iload_n 1, 1) := by decide +kernel
set_option maxRecDepth 100000 in
theorem d_WM_bridge_1 : decode b_WM_bridge 1 = .ok (.iconst (-1), 1) := by decide +kernel
set_option maxRecDepth 100000 in
theorem d_WM_bridge_2 : decode b_WM_bridge 2 = .ok (.if_icmp .eq 22, 3) := by decide +kernel
set_option maxRecDepth 100000 in
theorem d_WM_bridge_5 : decode b_WM_bridge 5 = .ok (.iload_n 1, 1) := by decide +kernel
set_option maxRecDepth 100000 in
theorem d_WM_bridge_6 : decode b_WM_bridge 6 = .ok (.ifCond .lt 16, 3) := by decide +kernel
set_option maxRecDepth 100000 in
theorem d_WM_bridge_9 : decode b_WM_bridge 9 = .ok (.iload_n 1, 1) := by decide +kernel
set_option maxRecDepth 100000 in
theorem d_WM_bridge_10 : decode b_WM_bridge 10 = .ok (.aload_n 0, 1) := by decide +kernel
set_option maxRecDepth 100000 in
theorem d_WM_bridge_11 : decode b_WM_bridge 11 = .ok (.getfield 12, 3) := by decide +kernel
set_option maxRecDepth 100000 in
theorem d_WM_bridge_14 : decode b_WM_bridge 14 = .ok (.getfield 64, 3) := by decide +kernel
set_option maxRecDepth 100000 in
theorem d_WM_bridge_17 : decode b_WM_bridge 17 = .ok (.iconst 1, 1) := by decide +kernel
set_option maxRecDepth 100000 in
theorem d_WM_bridge_18 : decode b_WM_bridge 18 = .ok (.isub, 1) := by decide +kernel
set_option maxRecDepth 100000 in
theorem d_WM_bridge_19 : decode b_WM_bridge 19 = .ok (.if_icmp .lt 5, 3) := by decide +kernel
set_option maxRecDepth 100000 in
theorem d_WM_bridge_22 : decode b_WM_bridge 22 = .ok (.iconst (-1), 1) := by decide +kernel
set_option maxRecDepth 100000 in
theorem d_WM_bridge_23 : decode b_WM_bridge 23 = .ok (.ireturn, 1) := by decide +kernel
set_option maxRecDepth 100000 in
theorem d_WM_bridge_24 : decode b_WM_bridge 24 = .ok (.aload_n 0, 1) := by decide +kernel
set_option maxRecDepth 100000 in
theorem d_WM_bridge_25 : decode b_WM_bridge 25 = .ok (.getfield 12, 3) := by decide +kernel
set_option maxRecDepth 100000 in
theorem d_WM_bridge_28 : decode b_WM_bridge 28 = .ok (.iload_n 1, 1) := by decide +kernel
set_option maxRecDepth 100000 in
theorem d_WM_bridge_29 : decode b_WM_bridge 29 = .ok (.putfield 72, 3) := by decide +kernel
set_option maxRecDepth 100000 in
theorem d_WM_bridge_32 : decode b_WM_bridge 32 = .ok (.iconst 1, 1) := by decide +kernel
set_option maxRecDepth 100000 in
theorem d_WM_bridge_33 : decode b_WM_bridge 33 = .ok (.ireturn, 1) := by decide +kernel
set_option maxRecDepth 100000 in
theorem d_WM_coins_0 : decode b_WM_coins 0 = .ok (.iload_n 1, 1) := by decide +kernel
set_option maxRecDepth 100000 in
theorem d_WM_coins_1 : decode b_WM_coins 1 = .ok (.tableswitch 72 0 4 #[35, 43, 51, 56, 64], 35) := by decide +kernel
set_option maxRecDepth 100000 in
theorem d_WM_coins_36 : decode b_WM_coins 36 = .ok (.aload_n 0, 1) := by decide +kernel
set_option maxRecDepth 100000 in
theorem d_WM_coins_37 : decode b_WM_coins 37 = .ok (.getfield 50, 3) := by decide +kernel
set_option maxRecDepth 100000 in
theorem d_WM_coins_40 : decode b_WM_coins 40 = .ok (.getfield 343, 3) := by decide +kernel
set_option maxRecDepth 100000 in
theorem d_WM_coins_43 : decode b_WM_coins 43 = .ok (.ireturn, 1) := by decide +kernel
set_option maxRecDepth 100000 in
theorem d_WM_coins_44 : decode b_WM_coins 44 = .ok (.aload_n 0, 1) := by decide +kernel
set_option maxRecDepth 100000 in
theorem d_WM_coins_45 : decode b_WM_coins 45 = .ok (.getfield 50, 3) := by decide +kernel
set_option maxRecDepth 100000 in
theorem d_WM_coins_48 : decode b_WM_coins 48 = .ok (.getfield 344, 3) := by decide +kernel
set_option maxRecDepth 100000 in
theorem d_WM_coins_51 : decode b_WM_coins 51 = .ok (.ireturn, 1) := by decide +kernel
set_option maxRecDepth 100000 in
theorem d_WM_coins_52 : decode b_WM_coins 52 = .ok (.aload_n 0, 1) := by decide +kernel
set_option maxRecDepth 100000 in
theorem d_WM_coins_53 : decode b_WM_coins 53 = .ok (.invokevirtual 347, 3) := by decide +kernel
set_option maxRecDepth 100000 in
theorem d_WM_coins_56 : decode b_WM_coins 56 = .ok (.ireturn, 1) := by decide +kernel
set_option maxRecDepth 100000 in
theorem d_WM_coins_57 : decode b_WM_coins 57 = .ok (.aload_n 0, 1) := by decide +kernel
set_option maxRecDepth 100000 in
theorem d_WM_coins_58 : decode b_WM_coins 58 = .ok (.getfield 50, 3) := by decide +kernel
set_option maxRecDepth 100000 in
theorem d_WM_coins_61 : decode b_WM_coins 61 = .ok (.getfield 350, 3) := by decide +kernel
set_option maxRecDepth 100000 in
theorem d_WM_coins_64 : decode b_WM_coins 64 = .ok (.ireturn, 1) := by decide +kernel
set_option maxRecDepth 100000 in
theorem d_WM_coins_65 : decode b_WM_coins 65 = .ok (.aload_n 0, 1) := by decide +kernel
set_option maxRecDepth 100000 in
theorem d_WM_coins_66 : decode b_WM_coins 66 = .ok (.getfield 50, 3) := by decide +kernel
set_option maxRecDepth 100000 in
theorem d_WM_coins_69 : decode b_WM_coins 69 = .ok (.getfield 353, 3) := by decide +kernel
set_option maxRecDepth 100000 in
theorem d_WM_coins_72 : decode b_WM_coins 72 = .ok (.ireturn, 1) := by decide +kernel
set_option maxRecDepth 100000 in
theorem d_WM_coins_73 : decode b_WM_coins 73 = .ok (.iconst (-1), 1) := by decide +kernel
set_option maxRecDepth 100000 in
theorem d_WM_coins_74 : decode b_WM_coins 74 = .ok (.ireturn, 1) := by decide +kernel
set_option maxRecDepth 100000 in
theorem d_WM_coinsOfMen_0 : decode b_WM_coinsOfMen 0 = .ok (.iconst 0, 1) := by decide +kernel
set_option maxRecDepth 100000 in
theorem d_WM_coinsOfMen_1 : decode b_WM_coinsOfMen 1 = .ok (.istore_n 1, 1) := by decide +kernel
set_option maxRecDepth 100000 in
theorem d_WM_coinsOfMen_2 : decode b_WM_coinsOfMen 2 = .ok (.iconst 0, 1) := by decide +kernel
set_option maxRecDepth 100000 in
theorem d_WM_coinsOfMen_3 : decode b_WM_coinsOfMen 3 = .ok (.istore_n 2, 1) := by decide +kernel
set_option maxRecDepth 100000 in
theorem d_WM_coinsOfMen_4 : decode b_WM_coinsOfMen 4 = .ok (.iload_n 2, 1) := by decide +kernel
set_option maxRecDepth 100000 in
theorem d_WM_coinsOfMen_5 : decode b_WM_coinsOfMen 5 = .ok (.bipush 40, 2) := by decide +kernel
set_option maxRecDepth 100000 in
theorem d_WM_coinsOfMen_7 : decode b_WM_coinsOfMen 7 = .ok (.if_icmp .ge 31, 3) := by decide +kernel
set_option maxRecDepth 100000 in
theorem d_WM_coinsOfMen_10 : decode b_WM_coinsOfMen 10 = .ok (.aload_n 0, 1) := by decide +kernel
set_option maxRecDepth 100000 in
theorem d_WM_coinsOfMen_11 : decode b_WM_coinsOfMen 11 = .ok (.getfield 18, 3) := by decide +kernel
set_option maxRecDepth 100000 in
theorem d_WM_coinsOfMen_14 : decode b_WM_coinsOfMen 14 = .ok (.iload_n 2, 1) := by decide +kernel
set_option maxRecDepth 100000 in
theorem d_WM_coinsOfMen_15 : decode b_WM_coinsOfMen 15 = .ok (.aaload, 1) := by decide +kernel
set_option maxRecDepth 100000 in
theorem d_WM_coinsOfMen_16 : decode b_WM_coinsOfMen 16 = .ok (.astore_n 3, 1) := by decide +kernel
set_option maxRecDepth 100000 in
theorem d_WM_coinsOfMen_17 : decode b_WM_coinsOfMen 17 = .ok (.iload_n 1, 1) := by decide +kernel
set_option maxRecDepth 100000 in
theorem d_WM_coinsOfMen_18 : decode b_WM_coinsOfMen 18 = .ok (.aload_n 3, 1) := by decide +kernel
set_option maxRecDepth 100000 in
theorem d_WM_coinsOfMen_19 : decode b_WM_coinsOfMen 19 = .ok (.ifnonnull 7, 3) := by decide +kernel
set_option maxRecDepth 100000 in
theorem d_WM_coinsOfMen_26 : decode b_WM_coinsOfMen 26 = .ok (.aload_n 3, 1) := by decide +kernel
set_option maxRecDepth 100000 in
theorem d_WM_coinsOfMen_27 : decode b_WM_coinsOfMen 27 = .ok (.getfield 152, 3) := by decide +kernel
set_option maxRecDepth 100000 in
theorem d_WM_coinsOfMen_30 : decode b_WM_coinsOfMen 30 = .ok (.iadd, 1) := by decide +kernel
set_option maxRecDepth 100000 in
theorem d_WM_coinsOfMen_31 : decode b_WM_coinsOfMen 31 = .ok (.istore_n 1, 1) := by decide +kernel
set_option maxRecDepth 100000 in
theorem d_WM_coinsOfMen_32 : decode b_WM_coinsOfMen 32 = .ok (.iinc 2 1, 3) := by decide +kernel
set_option maxRecDepth 100000 in
theorem d_WM_coinsOfMen_35 : decode b_WM_coinsOfMen 35 = .ok (.goto (-31), 3) := by decide +kernel
set_option maxRecDepth 100000 in
theorem d_WM_coinsOfMen_38 : decode b_WM_coinsOfMen 38 = .ok (.iload_n 1, 1) := by decide +kernel
set_option maxRecDepth 100000 in
theorem d_WM_coinsOfMen_39 : decode b_WM_coinsOfMen 39 = .ok (.ireturn, 1) := by decide +kernel
set_option maxRecDepth 100000 in
theorem d_WM_count_0 : decode b_WM_count 0 = .ok (.iload_n 1, 1) := by decide +kernel
set_option maxRecDepth 100000 in
theorem d_WM_count_1 : decode b_WM_count 1 = .ok (.tableswitch 117 0 9 #[55, 63, 68, 73, 78, 83, 89, 95, 101, 109], 55) := by decide +kernel
set_option maxRecDepth 100000 in
theorem d_WM_count_56 : decode b_WM_count 56 = .ok (.aload_n 0, 1) := by decide +kernel
set_option maxRecDepth 100000 in
theorem d_WM_count_57 : decode b_WM_count 57 = .ok (.getfield 12, 3) := by decide +kernel
set_option maxRecDepth 100000 in
theorem d_WM_count_60 : decode b_WM_count 60 = .ok (.getfield 64, 3) := by decide +kernel
set_option maxRecDepth 100000 in
theorem d_WM_count_63 : decode b_WM_count 63 = .ok (.ireturn, 1) := by decide +kernel
set_option maxRecDepth 100000 in
theorem d_WM_count_64 : decode b_WM_count 64 = .ok (.aload_n 0, 1) := by decide +kernel
set_option maxRecDepth 100000 in
theorem d_WM_count_65 : decode b_WM_count 65 = .ok (.getfield 170, 3) := by decide +kernel
set_option maxRecDepth 100000 in
theorem d_WM_count_68 : decode b_WM_count 68 = .ok (.ireturn, 1) := by decide +kernel
set_option maxRecDepth 100000 in
theorem d_WM_count_69 : decode b_WM_count 69 = .ok (.aload_n 0, 1) := by decide +kernel
set_option maxRecDepth 100000 in
theorem d_WM_count_70 : decode b_WM_count 70 = .ok (.getfield 243, 3) := by decide +kernel
set_option maxRecDepth 100000 in
theorem d_WM_count_73 : decode b_WM_count 73 = .ok (.ireturn, 1) := by decide +kernel
set_option maxRecDepth 100000 in
theorem d_WM_count_74 : decode b_WM_count 74 = .ok (.aload_n 0, 1) := by decide +kernel
set_option maxRecDepth 100000 in
theorem d_WM_count_75 : decode b_WM_count 75 = .ok (.getfield 210, 3) := by decide +kernel
set_option maxRecDepth 100000 in
theorem d_WM_count_78 : decode b_WM_count 78 = .ok (.ireturn, 1) := by decide +kernel
set_option maxRecDepth 100000 in
theorem d_WM_count_79 : decode b_WM_count 79 = .ok (.aload_n 0, 1) := by decide +kernel
set_option maxRecDepth 100000 in
theorem d_WM_count_80 : decode b_WM_count 80 = .ok (.getfield 155, 3) := by decide +kernel
set_option maxRecDepth 100000 in
theorem d_WM_count_83 : decode b_WM_count 83 = .ok (.ireturn, 1) := by decide +kernel
set_option maxRecDepth 100000 in
theorem d_WM_count_84 : decode b_WM_count 84 = .ok (.aload_n 0, 1) := by decide +kernel
set_option maxRecDepth 100000 in
theorem d_WM_count_85 : decode b_WM_count 85 = .ok (.iconst 2, 1) := by decide +kernel
set_option maxRecDepth 100000 in
theorem d_WM_count_86 : decode b_WM_count 86 = .ok (.invokevirtual 340, 3) := by decide +kernel
set_option maxRecDepth 100000 in
theorem d_WM_count_89 : decode b_WM_count 89 = .ok (.ireturn, 1) := by decide +kernel
set_option maxRecDepth 100000 in
theorem d_WM_count_90 : decode b_WM_count 90 = .ok (.aload_n 0, 1) := by decide +kernel
set_option maxRecDepth 100000 in
theorem d_WM_count_91 : decode b_WM_count 91 = .ok (.iconst 1, 1) := by decide +kernel
set_option maxRecDepth 100000 in
theorem d_WM_count_92 : decode b_WM_count 92 = .ok (.invokevirtual 340, 3) := by decide +kernel
set_option maxRecDepth 100000 in
theorem d_WM_count_95 : decode b_WM_count 95 = .ok (.ireturn, 1) := by decide +kernel
set_option maxRecDepth 100000 in
theorem d_WM_count_96 : decode b_WM_count 96 = .ok (.aload_n 0, 1) := by decide +kernel
set_option maxRecDepth 100000 in
theorem d_WM_count_97 : decode b_WM_count 97 = .ok (.iconst 3, 1) := by decide +kernel
set_option maxRecDepth 100000 in
theorem d_WM_count_98 : decode b_WM_count 98 = .ok (.invokevirtual 340, 3) := by decide +kernel
set_option maxRecDepth 100000 in
theorem d_WM_count_101 : decode b_WM_count 101 = .ok (.ireturn, 1) := by decide +kernel
set_option maxRecDepth 100000 in
theorem d_WM_count_102 : decode b_WM_count 102 = .ok (.aload_n 0, 1) := by decide +kernel
set_option maxRecDepth 100000 in
theorem d_WM_count_103 : decode b_WM_count 103 = .ok (.getfield 50, 3) := by decide +kernel
set_option maxRecDepth 100000 in
theorem d_WM_count_106 : decode b_WM_count 106 = .ok (.getfield 280, 3) := by decide +kernel
set_option maxRecDepth 100000 in
theorem d_WM_count_109 : decode b_WM_count 109 = .ok (.ireturn, 1) := by decide +kernel
set_option maxRecDepth 100000 in
theorem d_WM_count_110 : decode b_WM_count 110 = .ok (.aload_n 0, 1) := by decide +kernel
set_option maxRecDepth 100000 in
theorem d_WM_count_111 : decode b_WM_count 111 = .ok (.getfield 43, 3) := by decide +kernel
set_option maxRecDepth 100000 in
theorem d_WM_count_114 : decode b_WM_count 114 = .ok (.getfield 207, 3) := by decide +kernel
set_option maxRecDepth 100000 in
theorem d_WM_count_117 : decode b_WM_count 117 = .ok (.ireturn, 1) := by decide +kernel
set_option maxRecDepth 100000 in
theorem d_WM_count_118 : decode b_WM_count 118 = .ok (.iconst (-1), 1) := by decide +kernel
set_option maxRecDepth 100000 in
theorem d_WM_count_119 : decode b_WM_count 119 = .ok (.ireturn, 1) := by decide +kernel
set_option maxRecDepth 100000 in
theorem d_WM_craft_0 : decode b_WM_craft 0 = .ok (.aload_n 0, 1) := by decide +kernel
set_option maxRecDepth 100000 in
theorem d_WM_craft_1 : decode b_WM_craft 1 = .ok (.iload_n 1, 1) := by decide +kernel
set_option maxRecDepth 100000 in
theorem d_WM_craft_2 : decode b_WM_craft 2 = .ok (.invokevirtual 174, 3) := by decide +kernel
set_option maxRecDepth 100000 in
theorem d_WM_craft_5 : decode b_WM_craft 5 = .ok (.astore_n 3, 1) := by decide +kernel
set_option maxRecDepth 100000 in
theorem d_WM_craft_6 : decode b_WM_craft 6 = .ok (.aload_n 3, 1) := by decide +kernel
set_option maxRecDepth 100000 in
theorem d_WM_craft_7 : decode b_WM_craft 7 = .ok (.ifnonnull 5, 3) := by decide +kernel
set_option maxRecDepth 100000 in
theorem d_WM_craft_10 : decode b_WM_craft 10 = .ok (.iconst (-1), 1) := by decide +kernel
set_option maxRecDepth 100000 in
theorem d_WM_craft_11 : decode b_WM_craft 11 = .ok (.ireturn, 1) := by decide +kernel
set_option maxRecDepth 100000 in
theorem d_WM_due_0 : decode b_WM_due 0 = .ok (.aload_n 0, 1) := by decide +kernel
set_option maxRecDepth 100000 in
theorem d_WM_due_1 : decode b_WM_due 1 = .ok (.iload_n 1, 1) := by decide +kernel
set_option maxRecDepth 100000 in
theorem d_WM_due_2 : decode b_WM_due 2 = .ok (.invokevirtual 293, 3) := by decide +kernel
set_option maxRecDepth 100000 in
theorem d_WM_due_5 : decode b_WM_due 5 = .ok (.astore_n 3, 1) := by decide +kernel
set_option maxRecDepth 100000 in
theorem d_WM_due_6 : decode b_WM_due 6 = .ok (.aload_n 3, 1) := by decide +kernel
set_option maxRecDepth 100000 in
theorem d_WM_due_7 : decode b_WM_due 7 = .ok (.ifnull 10, 3) := by decide +kernel
set_option maxRecDepth 100000 in
theorem d_WM_due_17 : decode b_WM_due 17 = .ok (.bipush (-2), 2) := by decide +kernel
set_option maxRecDepth 100000 in
theorem d_WM_due_19 : decode b_WM_due 19 = .ok (.goto 9, 3) := by decide +kernel
set_option maxRecDepth 100000 in
theorem d_WM_due_28 : decode b_WM_due 28 = .ok (.ireturn, 1) := by decide +kernel
set_option maxRecDepth 100000 in
theorem d_WM_end_0 : decode b_WM_end 0 = .ok (.iload_n 1, 1) := by decide +kernel
set_option maxRecDepth 100000 in
theorem d_WM_end_1 : decode b_WM_end 1 = .ok (.ifCond .lt 14, 3) := by decide +kernel
set_option maxRecDepth 100000 in
theorem d_WM_end_4 : decode b_WM_end 4 = .ok (.iload_n 1, 1) := by decide +kernel
set_option maxRecDepth 100000 in
theorem d_WM_end_5 : decode b_WM_end 5 = .ok (.aload_n 0, 1) := by decide +kernel
set_option maxRecDepth 100000 in
theorem d_WM_end_6 : decode b_WM_end 6 = .ok (.getfield 43, 3) := by decide +kernel
set_option maxRecDepth 100000 in
theorem d_WM_end_9 : decode b_WM_end 9 = .ok (.getfield 207, 3) := by decide +kernel
set_option maxRecDepth 100000 in
theorem d_WM_end_12 : decode b_WM_end 12 = .ok (.if_icmp .le 5, 3) := by decide +kernel
set_option maxRecDepth 100000 in
theorem d_WM_end_15 : decode b_WM_end 15 = .ok (.iconst (-1), 1) := by decide +kernel
set_option maxRecDepth 100000 in
theorem d_WM_end_16 : decode b_WM_end 16 = .ok (.ireturn, 1) := by decide +kernel
set_option maxRecDepth 100000 in
theorem d_WM_end_17 : decode b_WM_end 17 = .ok (.aload_n 0, 1) := by decide +kernel
set_option maxRecDepth 100000 in
theorem d_WM_end_18 : decode b_WM_end 18 = .ok (.getfield 43, 3) := by decide +kernel
set_option maxRecDepth 100000 in
theorem d_WM_end_21 : decode b_WM_end 21 = .ok (.iload_n 1, 1) := by decide +kernel
set_option maxRecDepth 100000 in
theorem d_WM_end_22 : decode b_WM_end 22 = .ok (.putfield 207, 3) := by decide +kernel
set_option maxRecDepth 100000 in
theorem d_WM_end_25 : decode b_WM_end 25 = .ok (.iload_n 1, 1) := by decide +kernel
set_option maxRecDepth 100000 in
theorem d_WM_end_26 : decode b_WM_end 26 = .ok (.ireturn, 1) := by decide +kernel
set_option maxRecDepth 100000 in
theorem d_WM_fare_0 : decode b_WM_fare 0 = .ok (.aload_n 0, 1) := by decide +kernel
set_option maxRecDepth 100000 in
theorem d_WM_fare_1 : decode b_WM_fare 1 = .ok (.iload_n 1, 1) := by decide +kernel
set_option maxRecDepth 100000 in
theorem d_WM_fare_2 : decode b_WM_fare 2 = .ok (.invokevirtual 226, 3) := by decide +kernel
set_option maxRecDepth 100000 in
theorem d_WM_fare_5 : decode b_WM_fare 5 = .ok (.astore 6, 2) := by decide +kernel
set_option maxRecDepth 100000 in
theorem d_WM_fare_7 : decode b_WM_fare 7 = .ok (.aload 6, 2) := by decide +kernel
set_option maxRecDepth 100000 in
theorem d_WM_fare_9 : decode b_WM_fare 9 = .ok (.ifnull 30, 3) := by decide +kernel
set_option maxRecDepth 100000 in
theorem d_WM_fare_39 : decode b_WM_fare 39 = .ok (.iconst (-1), 1) := by decide +kernel
set_option maxRecDepth 100000 in
theorem d_WM_fare_40 : decode b_WM_fare 40 = .ok (.ireturn, 1) := by decide +kernel
set_option maxRecDepth 100000 in
theorem d_WM_feed_0 : decode b_WM_feed 0 = .ok (.aload_n 0, 1) := by decide +kernel
set_option maxRecDepth 100000 in
theorem d_WM_feed_1 : decode b_WM_feed 1 = .ok (.getfield 43, 3) := by decide +kernel
set_option maxRecDepth 100000 in
theorem d_WM_feed_4 : decode b_WM_feed 4 = .ok (.invokevirtual 199, 3) := by decide +kernel
set_option maxRecDepth 100000 in
theorem d_WM_feed_7 : decode b_WM_feed 7 = .ok (.ifCond .ne 6, 3) := by decide +kernel
set_option maxRecDepth 100000 in
theorem d_WM_feed_13 : decode b_WM_feed 13 = .ok (.aload_n 0, 1) := by decide +kernel
set_option maxRecDepth 100000 in
theorem d_WM_feed_14 : decode b_WM_feed 14 = .ok (.getfield 43, 3) := by decide +kernel
set_option maxRecDepth 100000 in
theorem d_WM_feed_17 : decode b_WM_feed 17 = .ok (.iload_n 1, 1) := by decide +kernel
set_option maxRecDepth 100000 in
theorem d_WM_feed_18 : decode b_WM_feed 18 = .ok (.invokevirtual 203, 3) := by decide +kernel
set_option maxRecDepth 100000 in
theorem d_WM_feed_21 : decode b_WM_feed 21 = .ok (.aload_n 0, 1) := by decide +kernel
set_option maxRecDepth 100000 in
theorem d_WM_feed_22 : decode b_WM_feed 22 = .ok (.getfield 43, 3) := by decide +kernel
set_option maxRecDepth 100000 in
theorem d_WM_feed_25 : decode b_WM_feed 25 = .ok (.iload_n 2, 1) := by decide +kernel
set_option maxRecDepth 100000 in
theorem d_WM_feed_26 : decode b_WM_feed 26 = .ok (.invokevirtual 203, 3) := by decide +kernel
set_option maxRecDepth 100000 in
theorem d_WM_feed_29 : decode b_WM_feed 29 = .ok (.aload_n 0, 1) := by decide +kernel
set_option maxRecDepth 100000 in
theorem d_WM_feed_30 : decode b_WM_feed 30 = .ok (.getfield 43, 3) := by decide +kernel
set_option maxRecDepth 100000 in
theorem d_WM_feed_33 : decode b_WM_feed 33 = .ok (.iload_n 3, 1) := by decide +kernel
set_option maxRecDepth 100000 in
theorem d_WM_feed_34 : decode b_WM_feed 34 = .ok (.invokevirtual 203, 3) := by decide +kernel
set_option maxRecDepth 100000 in
theorem d_WM_feed_37 : decode b_WM_feed 37 = .ok (.aload_n 0, 1) := by decide +kernel
set_option maxRecDepth 100000 in
theorem d_WM_feed_38 : decode b_WM_feed 38 = .ok (.getfield 43, 3) := by decide +kernel
set_option maxRecDepth 100000 in
theorem d_WM_feed_41 : decode b_WM_feed 41 = .ok (.iload 4, 2) := by decide +kernel
set_option maxRecDepth 100000 in
theorem d_WM_feed_43 : decode b_WM_feed 43 = .ok (.invokevirtual 203, 3) := by decide +kernel
set_option maxRecDepth 100000 in
theorem d_WM_feed_46 : decode b_WM_feed 46 = .ok (.aload_n 0, 1) := by decide +kernel
set_option maxRecDepth 100000 in
theorem d_WM_feed_47 : decode b_WM_feed 47 = .ok (.getfield 43, 3) := by decide +kernel
set_option maxRecDepth 100000 in
theorem d_WM_feed_50 : decode b_WM_feed 50 = .ok (.iload 5, 2) := by decide +kernel
set_option maxRecDepth 100000 in
theorem d_WM_feed_52 : decode b_WM_feed 52 = .ok (.invokevirtual 203, 3) := by decide +kernel
set_option maxRecDepth 100000 in
theorem d_WM_feed_55 : decode b_WM_feed 55 = .ok (.aload_n 0, 1) := by decide +kernel
set_option maxRecDepth 100000 in
theorem d_WM_feed_56 : decode b_WM_feed 56 = .ok (.getfield 43, 3) := by decide +kernel
set_option maxRecDepth 100000 in
theorem d_WM_feed_59 : decode b_WM_feed 59 = .ok (.getfield 207, 3) := by decide +kernel
set_option maxRecDepth 100000 in
theorem d_WM_feed_62 : decode b_WM_feed 62 = .ok (.ireturn, 1) := by decide +kernel
set_option maxRecDepth 100000 in
theorem d_WM_flow_0 : decode b_WM_flow 0 = .ok (.iload_n 1, 1) := by decide +kernel
set_option maxRecDepth 100000 in
theorem d_WM_flow_1 : decode b_WM_flow 1 = .ok (.invokestatic 75, 3) := by decide +kernel
set_option maxRecDepth 100000 in
theorem d_WM_flow_4 : decode b_WM_flow 4 = .ok (.ifCond .eq 22, 3) := by decide +kernel
set_option maxRecDepth 100000 in
theorem d_WM_flow_7 : decode b_WM_flow 7 = .ok (.iload_n 2, 1) := by decide +kernel
set_option maxRecDepth 100000 in
theorem d_WM_flow_8 : decode b_WM_flow 8 = .ok (.invokestatic 79, 3) := by decide +kernel
set_option maxRecDepth 100000 in
theorem d_WM_flow_11 : decode b_WM_flow 11 = .ok (.ifCond .eq 15, 3) := by decide +kernel
set_option maxRecDepth 100000 in
theorem d_WM_flow_14 : decode b_WM_flow 14 = .ok (.aload_n 0, 1) := by decide +kernel
set_option maxRecDepth 100000 in
theorem d_WM_flow_15 : decode b_WM_flow 15 = .ok (.getfield 12, 3) := by decide +kernel
set_option maxRecDepth 100000 in
theorem d_WM_flow_18 : decode b_WM_flow 18 = .ok (.iload_n 1, 1) := by decide +kernel
set_option maxRecDepth 100000 in
theorem d_WM_flow_19 : decode b_WM_flow 19 = .ok (.iload_n 2, 1) := by decide +kernel
set_option maxRecDepth 100000 in
theorem d_WM_flow_20 : decode b_WM_flow 20 = .ok (.invokevirtual 93, 3) := by decide +kernel
set_option maxRecDepth 100000 in
theorem d_WM_flow_23 : decode b_WM_flow 23 = .ok (.goto 6, 3) := by decide +kernel
set_option maxRecDepth 100000 in
theorem d_WM_flow_26 : decode b_WM_flow 26 = .ok (.sipush (-1000), 3) := by decide +kernel
set_option maxRecDepth 100000 in
theorem d_WM_flow_29 : decode b_WM_flow 29 = .ok (.ireturn, 1) := by decide +kernel
set_option maxRecDepth 100000 in
theorem d_WM_foretold_0 : decode b_WM_foretold 0 = .ok (.aload_n 0, 1) := by decide +kernel
set_option maxRecDepth 100000 in
theorem d_WM_foretold_1 : decode b_WM_foretold 1 = .ok (.getfield 50, 3) := by decide +kernel
set_option maxRecDepth 100000 in
theorem d_WM_foretold_4 : decode b_WM_foretold 4 = .ok (.aload_n 0, 1) := by decide +kernel
set_option maxRecDepth 100000 in
theorem d_WM_foretold_5 : decode b_WM_foretold 5 = .ok (.invokevirtual 97, 3) := by decide +kernel
set_option maxRecDepth 100000 in
theorem d_WM_foretold_8 : decode b_WM_foretold 8 = .ok (.invokevirtual 322, 3) := by decide +kernel
set_option maxRecDepth 100000 in
theorem d_WM_foretold_11 : decode b_WM_foretold 11 = .ok (.istore_n 1, 1) := by decide +kernel
set_option maxRecDepth 100000 in
theorem d_WM_foretold_12 : decode b_WM_foretold 12 = .ok (.iload_n 1, 1) := by decide +kernel
set_option maxRecDepth 100000 in
theorem d_WM_foretold_13 : decode b_WM_foretold 13 = .ok (.iconst (-1), 1) := by decide +kernel
set_option maxRecDepth 100000 in
theorem d_WM_foretold_14 : decode b_WM_foretold 14 = .ok (.if_icmp .ne 8, 3) := by decide +kernel
set_option maxRecDepth 100000 in
theorem d_WM_foretold_17 : decode b_WM_foretold 17 = .ok (.bipush (-2), 2) := by decide +kernel
set_option maxRecDepth 100000 in
theorem d_WM_foretold_19 : decode b_WM_foretold 19 = .ok (.goto 4, 3) := by decide +kernel
set_option maxRecDepth 100000 in
theorem d_WM_foretold_23 : decode b_WM_foretold 23 = .ok (.ireturn, 1) := by decide +kernel
set_option maxRecDepth 100000 in
theorem d_WM_free_0 : decode b_WM_free 0 = .ok (.aload_n 0, 1) := by decide +kernel
set_option maxRecDepth 100000 in
theorem d_WM_free_1 : decode b_WM_free 1 = .ok (.iload_n 1, 1) := by decide +kernel
set_option maxRecDepth 100000 in
theorem d_WM_free_2 : decode b_WM_free 2 = .ok (.invokevirtual 107, 3) := by decide +kernel
set_option maxRecDepth 100000 in
theorem d_WM_free_5 : decode b_WM_free 5 = .ok (.astore_n 2, 1) := by decide +kernel
set_option maxRecDepth 100000 in
theorem d_WM_free_6 : decode b_WM_free 6 = .ok (.aload_n 2, 1) := by decide +kernel
set_option maxRecDepth 100000 in
theorem d_WM_free_7 : decode b_WM_free 7 = .ok (.ifnonnull 5, 3) := by decide +kernel
set_option maxRecDepth 100000 in
theorem d_WM_free_10 : decode b_WM_free 10 = .ok (.iconst (-1), 1) := by decide +kernel
set_option maxRecDepth 100000 in
theorem d_WM_free_11 : decode b_WM_free 11 = .ok (.ireturn, 1) := by decide +kernel
set_option maxRecDepth 100000 in
theorem d_WM_free_12 : decode b_WM_free 12 = .ok (.aload_n 2, 1) := by decide +kernel
set_option maxRecDepth 100000 in
theorem d_WM_free_13 : decode b_WM_free 13 = .ok (.getfield 111, 3) := by decide +kernel
set_option maxRecDepth 100000 in
theorem d_WM_free_16 : decode b_WM_free 16 = .ok (.ifCond .eq 6, 3) := by decide +kernel
set_option maxRecDepth 100000 in
theorem d_WM_free_22 : decode b_WM_free 22 = .ok (.aload_n 2, 1) := by decide +kernel
set_option maxRecDepth 100000 in
theorem d_WM_free_23 : decode b_WM_free 23 = .ok (.iconst 2, 1) := by decide +kernel
set_option maxRecDepth 100000 in
theorem d_WM_free_24 : decode b_WM_free 24 = .ok (.putfield 111, 3) := by decide +kernel
set_option maxRecDepth 100000 in
theorem d_WM_free_27 : decode b_WM_free 27 = .ok (.iconst 1, 1) := by decide +kernel
set_option maxRecDepth 100000 in
theorem d_WM_free_28 : decode b_WM_free 28 = .ok (.ireturn, 1) := by decide +kernel
set_option maxRecDepth 100000 in
theorem d_WM_frost_0 : decode b_WM_frost 0 = .ok (.iload_n 1, 1) := by decide +kernel
set_option maxRecDepth 100000 in
theorem d_WM_frost_1 : decode b_WM_frost 1 = .ok (.invokestatic 75, 3) := by decide +kernel
set_option maxRecDepth 100000 in
theorem d_WM_frost_4 : decode b_WM_frost 4 = .ok (.ifCond .eq 20, 3) := by decide +kernel
set_option maxRecDepth 100000 in
theorem d_WM_frost_7 : decode b_WM_frost 7 = .ok (.iload_n 1, 1) := by decide +kernel
set_option maxRecDepth 100000 in
theorem d_WM_frost_8 : decode b_WM_frost 8 = .ok (.aload_n 0, 1) := by decide +kernel
set_option maxRecDepth 100000 in
theorem d_WM_frost_9 : decode b_WM_frost 9 = .ok (.invokevirtual 97, 3) := by decide +kernel
set_option maxRecDepth 100000 in
theorem d_WM_frost_12 : decode b_WM_frost 12 = .ok (.if_icmp .lt 12, 3) := by decide +kernel
set_option maxRecDepth 100000 in
theorem d_WM_frost_15 : decode b_WM_frost 15 = .ok (.iload_n 2, 1) := by decide +kernel
set_option maxRecDepth 100000 in
theorem d_WM_frost_16 : decode b_WM_frost 16 = .ok (.ifCond .lt 8, 3) := by decide +kernel
set_option maxRecDepth 100000 in
theorem d_WM_frost_19 : decode b_WM_frost 19 = .ok (.iload_n 2, 1) := by decide +kernel
set_option maxRecDepth 100000 in
theorem d_WM_frost_20 : decode b_WM_frost 20 = .ok (.iconst 1, 1) := by decide +kernel
set_option maxRecDepth 100000 in
theorem d_WM_frost_21 : decode b_WM_frost 21 = .ok (.if_icmp .le 5, 3) := by decide +kernel
set_option maxRecDepth 100000 in
theorem d_WM_frost_24 : decode b_WM_frost 24 = .ok (.iconst (-1), 1) := by decide +kernel
set_option maxRecDepth 100000 in
theorem d_WM_frost_25 : decode b_WM_frost 25 = .ok (.ireturn, 1) := by decide +kernel
set_option maxRecDepth 100000 in
theorem d_WM_frost_26 : decode b_WM_frost 26 = .ok (.aload_n 0, 1) := by decide +kernel
set_option maxRecDepth 100000 in
theorem d_WM_frost_27 : decode b_WM_frost 27 = .ok (.getfield 12, 3) := by decide +kernel
set_option maxRecDepth 100000 in
theorem d_WM_frost_30 : decode b_WM_frost 30 = .ok (.iload_n 1, 1) := by decide +kernel
set_option maxRecDepth 100000 in
theorem d_WM_frost_31 : decode b_WM_frost 31 = .ok (.invokevirtual 100, 3) := by decide +kernel
set_option maxRecDepth 100000 in
theorem d_WM_frost_34 : decode b_WM_frost 34 = .ok (.ifCond .eq 7, 3) := by decide +kernel
set_option maxRecDepth 100000 in
theorem d_WM_frost_41 : decode b_WM_frost 41 = .ok (.iconst 0, 1) := by decide +kernel
set_option maxRecDepth 100000 in
theorem d_WM_frost_42 : decode b_WM_frost 42 = .ok (.istore_n 3, 1) := by decide +kernel
set_option maxRecDepth 100000 in
theorem d_WM_frost_43 : decode b_WM_frost 43 = .ok (.aload_n 0, 1) := by decide +kernel
set_option maxRecDepth 100000 in
theorem d_WM_frost_44 : decode b_WM_frost 44 = .ok (.getfield 12, 3) := by decide +kernel
set_option maxRecDepth 100000 in
theorem d_WM_frost_47 : decode b_WM_frost 47 = .ok (.getfield 103, 3) := by decide +kernel
set_option maxRecDepth 100000 in
theorem d_WM_frost_50 : decode b_WM_frost 50 = .ok (.iload_n 1, 1) := by decide +kernel
set_option maxRecDepth 100000 in
theorem d_WM_frost_51 : decode b_WM_frost 51 = .ok (.iload_n 2, 1) := by decide +kernel
set_option maxRecDepth 100000 in
theorem d_WM_frost_52 : decode b_WM_frost 52 = .ok (.iconst 1, 1) := by decide +kernel
set_option maxRecDepth 100000 in
theorem d_WM_frost_53 : decode b_WM_frost 53 = .ok (.if_icmp .ne 7, 3) := by decide +kernel
set_option maxRecDepth 100000 in
theorem d_WM_frost_56 : decode b_WM_frost 56 = .ok (.iconst 1, 1) := by decide +kernel
set_option maxRecDepth 100000 in
theorem d_WM_frost_57 : decode b_WM_frost 57 = .ok (.goto 4, 3) := by decide +kernel
set_option maxRecDepth 100000 in
theorem d_WM_frost_60 : decode b_WM_frost 60 = .ok (.iconst 0, 1) := by decide +kernel
set_option maxRecDepth 100000 in
theorem d_WM_frost_61 : decode b_WM_frost 61 = .ok (.bastore, 1) := by decide +kernel
set_option maxRecDepth 100000 in
theorem d_WM_frost_62 : decode b_WM_frost 62 = .ok (.iload_n 3, 1) := by decide +kernel
set_option maxRecDepth 100000 in
theorem d_WM_frost_63 : decode b_WM_frost 63 = .ok (.ireturn, 1) := by decide +kernel
set_option maxRecDepth 100000 in
theorem d_WM_inForce_0 : decode b_WM_inForce 0 = .ok (.iload_n 1, 1) := by decide +kernel
set_option maxRecDepth 100000 in
theorem d_WM_inForce_1 : decode b_WM_inForce 1 = .ok (.invokestatic 75, 3) := by decide +kernel
set_option maxRecDepth 100000 in
theorem d_WM_inForce_4 : decode b_WM_inForce 4 = .ok (.ifCond .eq 19, 3) := by decide +kernel
set_option maxRecDepth 100000 in
theorem d_WM_inForce_7 : decode b_WM_inForce 7 = .ok (.iload_n 2, 1) := by decide +kernel
set_option maxRecDepth 100000 in
theorem d_WM_inForce_8 : decode b_WM_inForce 8 = .ok (.invokestatic 75, 3) := by decide +kernel
set_option maxRecDepth 100000 in
theorem d_WM_inForce_11 : decode b_WM_inForce 11 = .ok (.ifCond .eq 12, 3) := by decide +kernel
set_option maxRecDepth 100000 in
theorem d_WM_inForce_14 : decode b_WM_inForce 14 = .ok (.aload_n 0, 1) := by decide +kernel
set_option maxRecDepth 100000 in
theorem d_WM_inForce_15 : decode b_WM_inForce 15 = .ok (.iload_n 1, 1) := by decide +kernel
set_option maxRecDepth 100000 in
theorem d_WM_inForce_16 : decode b_WM_inForce 16 = .ok (.iload_n 2, 1) := by decide +kernel
set_option maxRecDepth 100000 in
theorem d_WM_inForce_17 : decode b_WM_inForce 17 = .ok (.invokevirtual 223, 3) := by decide +kernel
set_option maxRecDepth 100000 in
theorem d_WM_inForce_20 : decode b_WM_inForce 20 = .ok (.goto 4, 3) := by decide +kernel
set_option maxRecDepth 100000 in
theorem d_WM_inForce_23 : decode b_WM_inForce 23 = .ok (.iconst (-1), 1) := by decide +kernel
set_option maxRecDepth 100000 in
theorem d_WM_inForce_24 : decode b_WM_inForce 24 = .ok (.ireturn, 1) := by decide +kernel
set_option maxRecDepth 100000 in
theorem d_WM_init_0 : decode b_WM_init 0 = .ok (.aload_n 0, 1) := by decide +kernel
set_option maxRecDepth 100000 in
theorem d_WM_init_1 : decode b_WM_init 1 = .ok (.invokespecial 3, 3) := by decide +kernel
set_option maxRecDepth 100000 in
theorem d_WM_init_4 : decode b_WM_init 4 = .ok (.aload_n 0, 1) := by decide +kernel
set_option maxRecDepth 100000 in
theorem d_WM_init_5 : decode b_WM_init 5 = .ok (.new 9, 3) := by decide +kernel
set_option maxRecDepth 100000 in
theorem d_WM_init_8 : decode b_WM_init 8 = .ok (.dup, 1) := by decide +kernel
set_option maxRecDepth 100000 in
theorem d_WM_init_9 : decode b_WM_init 9 = .ok (.invokespecial 11, 3) := by decide +kernel
set_option maxRecDepth 100000 in
theorem d_WM_init_12 : decode b_WM_init 12 = .ok (.putfield 12, 3) := by decide +kernel
set_option maxRecDepth 100000 in
theorem d_WM_init_15 : decode b_WM_init 15 = .ok (.aload_n 0, 1) := by decide +kernel
set_option maxRecDepth 100000 in
theorem d_WM_init_16 : decode b_WM_init 16 = .ok (.bipush 40, 2) := by decide +kernel
set_option maxRecDepth 100000 in
theorem d_WM_init_18 : decode b_WM_init 18 = .ok (.anewarray 16, 3) := by decide +kernel
set_option maxRecDepth 100000 in
theorem d_WM_init_21 : decode b_WM_init 21 = .ok (.putfield 18, 3) := by decide +kernel
set_option maxRecDepth 100000 in
theorem d_WM_init_24 : decode b_WM_init 24 = .ok (.aload_n 0, 1) := by decide +kernel
set_option maxRecDepth 100000 in
theorem d_WM_init_25 : decode b_WM_init 25 = .ok (.bipush 20, 2) := by decide +kernel
set_option maxRecDepth 100000 in
theorem d_WM_init_27 : decode b_WM_init 27 = .ok (.anewarray 22, 3) := by decide +kernel
set_option maxRecDepth 100000 in
theorem d_WM_init_30 : decode b_WM_init 30 = .ok (.putfield 24, 3) := by decide +kernel
set_option maxRecDepth 100000 in
theorem d_WM_init_33 : decode b_WM_init 33 = .ok (.aload_n 0, 1) := by decide +kernel
set_option maxRecDepth 100000 in
theorem d_WM_init_34 : decode b_WM_init 34 = .ok (.bipush 20, 2) := by decide +kernel
set_option maxRecDepth 100000 in
theorem d_WM_init_36 : decode b_WM_init 36 = .ok (.anewarray 28, 3) := by decide +kernel
set_option maxRecDepth 100000 in
theorem d_WM_init_39 : decode b_WM_init 39 = .ok (.putfield 30, 3) := by decide +kernel
set_option maxRecDepth 100000 in
theorem d_WM_init_42 : decode b_WM_init 42 = .ok (.aload_n 0, 1) := by decide +kernel
set_option maxRecDepth 100000 in
theorem d_WM_init_43 : decode b_WM_init 43 = .ok (.sipush 600, 3) := by decide +kernel
set_option maxRecDepth 100000 in
theorem d_WM_init_46 : decode b_WM_init 46 = .ok (.anewarray 34, 3) := by decide +kernel
set_option maxRecDepth 100000 in
theorem d_WM_init_49 : decode b_WM_init 49 = .ok (.putfield 36, 3) := by decide +kernel
set_option maxRecDepth 100000 in
theorem d_WM_init_52 : decode b_WM_init 52 = .ok (.aload_n 0, 1) := by decide +kernel
set_option maxRecDepth 100000 in
theorem d_WM_init_53 : decode b_WM_init 53 = .ok (.new 40, 3) := by decide +kernel
set_option maxRecDepth 100000 in
theorem d_WM_init_56 : decode b_WM_init 56 = .ok (.dup, 1) := by decide +kernel
set_option maxRecDepth 100000 in
theorem d_WM_init_57 : decode b_WM_init 57 = .ok (.invokespecial 42, 3) := by decide +kernel
set_option maxRecDepth 100000 in
theorem d_WM_init_60 : decode b_WM_init 60 = .ok (.putfield 43, 3) := by decide +kernel
set_option maxRecDepth 100000 in
theorem d_WM_init_63 : decode b_WM_init 63 = .ok (.aload_n 0, 1) := by decide +kernel
set_option maxRecDepth 100000 in
theorem d_WM_init_64 : decode b_WM_init 64 = .ok (.new 47, 3) := by decide +kernel
set_option maxRecDepth 100000 in
theorem d_WM_init_67 : decode b_WM_init 67 = .ok (.dup, 1) := by decide +kernel
set_option maxRecDepth 100000 in
theorem d_WM_init_68 : decode b_WM_init 68 = .ok (.invokespecial 49, 3) := by decide +kernel
set_option maxRecDepth 100000 in
theorem d_WM_init_71 : decode b_WM_init 71 = .ok (.putfield 50, 3) := by decide +kernel
set_option maxRecDepth 100000 in
theorem d_WM_init_74 : decode b_WM_init 74 = .ok (.aload_n 0, 1) := by decide +kernel
set_option maxRecDepth 100000 in
theorem d_WM_init_75 : decode b_WM_init 75 = .ok (.new 28, 3) := by decide +kernel
set_option maxRecDepth 100000 in
theorem d_WM_init_78 : decode b_WM_init 78 = .ok (.dup, 1) := by decide +kernel
set_option maxRecDepth 100000 in
theorem d_WM_init_79 : decode b_WM_init 79 = .ok (.invokespecial 54, 3) := by decide +kernel
set_option maxRecDepth 100000 in
theorem d_WM_init_82 : decode b_WM_init 82 = .ok (.putfield 55, 3) := by decide +kernel
set_option maxRecDepth 100000 in
theorem d_WM_init_85 : decode b_WM_init 85 = .ok (.iconst 0, 1) := by decide +kernel
set_option maxRecDepth 100000 in
theorem d_WM_init_86 : decode b_WM_init 86 = .ok (.istore_n 1, 1) := by decide +kernel
set_option maxRecDepth 100000 in
theorem d_WM_init_87 : decode b_WM_init 87 = .ok (.iload_n 1, 1) := by decide +kernel
set_option maxRecDepth 100000 in
theorem d_WM_init_88 : decode b_WM_init 88 = .ok (.bipush 40, 2) := by decide +kernel
set_option maxRecDepth 100000 in
theorem d_WM_init_90 : decode b_WM_init 90 = .ok (.if_icmp .ge 22, 3) := by decide +kernel
set_option maxRecDepth 100000 in
theorem d_WM_init_93 : decode b_WM_init 93 = .ok (.aload_n 0, 1) := by decide +kernel
set_option maxRecDepth 100000 in
theorem d_WM_init_94 : decode b_WM_init 94 = .ok (.getfield 18, 3) := by decide +kernel
set_option maxRecDepth 100000 in
theorem d_WM_init_97 : decode b_WM_init 97 = .ok (.iload_n 1, 1) := by decide +kernel
set_option maxRecDepth 100000 in
theorem d_WM_init_98 : decode b_WM_init 98 = .ok (.new 16, 3) := by decide +kernel
set_option maxRecDepth 100000 in
theorem d_WM_init_101 : decode b_WM_init 101 = .ok (.dup, 1) := by decide +kernel
set_option maxRecDepth 100000 in
theorem d_WM_init_102 : decode b_WM_init 102 = .ok (.invokespecial 59, 3) := by decide +kernel
set_option maxRecDepth 100000 in
theorem d_WM_init_105 : decode b_WM_init 105 = .ok (.aastore, 1) := by decide +kernel
set_option maxRecDepth 100000 in
theorem d_WM_init_106 : decode b_WM_init 106 = .ok (.iinc 1 1, 3) := by decide +kernel
set_option maxRecDepth 100000 in
theorem d_WM_init_109 : decode b_WM_init 109 = .ok (.goto (-22), 3) := by decide +kernel
set_option maxRecDepth 100000 in
theorem d_WM_init_112 : decode b_WM_init 112 = .ok (.return_, 1) := by decide +kernel
set_option maxRecDepth 100000 in
theorem d_WM_isDay_0 : decode b_WM_isDay 0 = .ok (.iload_n 0, 1) := by decide +kernel
set_option maxRecDepth 100000 in
theorem d_WM_isDay_1 : decode b_WM_isDay 1 = .ok (.ifCond .lt 14, 3) := by decide +kernel
set_option maxRecDepth 100000 in
theorem d_WM_isDay_4 : decode b_WM_isDay 4 = .ok (.iload_n 0, 1) := by decide +kernel
set_option maxRecDepth 100000 in
theorem d_WM_isDay_5 : decode b_WM_isDay 5 = .ok (.sipush 500, 3) := by decide +kernel
set_option maxRecDepth 100000 in
theorem d_WM_isDay_8 : decode b_WM_isDay 8 = .ok (.if_icmp .ge 7, 3) := by decide +kernel
set_option maxRecDepth 100000 in
theorem d_WM_isDay_11 : decode b_WM_isDay 11 = .ok (.iconst 1, 1) := by decide +kernel
set_option maxRecDepth 100000 in
theorem d_WM_isDay_12 : decode b_WM_isDay 12 = .ok (.goto 4, 3) := by decide +kernel
set_option maxRecDepth 100000 in
theorem d_WM_isDay_15 : decode b_WM_isDay 15 = .ok (.iconst 0, 1) := by decide +kernel
set_option maxRecDepth 100000 in
theorem d_WM_isDay_16 : decode b_WM_isDay 16 = .ok (.ireturn, 1) := by decide +kernel
set_option maxRecDepth 100000 in
theorem d_WM_isHour_0 : decode b_WM_isHour 0 = .ok (.iload_n 0, 1) := by decide +kernel
set_option maxRecDepth 100000 in
theorem d_WM_isHour_1 : decode b_WM_isHour 1 = .ok (.ifCond .lt 13, 3) := by decide +kernel
set_option maxRecDepth 100000 in
theorem d_WM_isHour_4 : decode b_WM_isHour 4 = .ok (.iload_n 0, 1) := by decide +kernel
set_option maxRecDepth 100000 in
theorem d_WM_isHour_5 : decode b_WM_isHour 5 = .ok (.bipush 12, 2) := by decide +kernel
set_option maxRecDepth 100000 in
theorem d_WM_isHour_7 : decode b_WM_isHour 7 = .ok (.if_icmp .ge 7, 3) := by decide +kernel
set_option maxRecDepth 100000 in
theorem d_WM_isHour_10 : decode b_WM_isHour 10 = .ok (.iconst 1, 1) := by decide +kernel
set_option maxRecDepth 100000 in
theorem d_WM_isHour_11 : decode b_WM_isHour 11 = .ok (.goto 4, 3) := by decide +kernel
set_option maxRecDepth 100000 in
theorem d_WM_isHour_14 : decode b_WM_isHour 14 = .ok (.iconst 0, 1) := by decide +kernel
set_option maxRecDepth 100000 in
theorem d_WM_isHour_15 : decode b_WM_isHour 15 = .ok (.ireturn, 1) := by decide +kernel
set_option maxRecDepth 100000 in
theorem d_WM_isLevel_0 : decode b_WM_isLevel 0 = .ok (.iload_n 0, 1) := by decide +kernel
set_option maxRecDepth 100000 in
theorem d_WM_isLevel_1 : decode b_WM_isLevel 1 = .ok (.bipush (-90), 2) := by decide +kernel
set_option maxRecDepth 100000 in
theorem d_WM_isLevel_3 : decode b_WM_isLevel 3 = .ok (.if_icmp .lt 13, 3) := by decide +kernel
set_option maxRecDepth 100000 in
theorem d_WM_isLevel_6 : decode b_WM_isLevel 6 = .ok (.iload_n 0, 1) := by decide +kernel
set_option maxRecDepth 100000 in
theorem d_WM_isLevel_7 : decode b_WM_isLevel 7 = .ok (.bipush 90, 2) := by decide +kernel
set_option maxRecDepth 100000 in
theorem d_WM_isLevel_9 : decode b_WM_isLevel 9 = .ok (.if_icmp .gt 7, 3) := by decide +kernel
set_option maxRecDepth 100000 in
theorem d_WM_isLevel_12 : decode b_WM_isLevel 12 = .ok (.iconst 1, 1) := by decide +kernel
set_option maxRecDepth 100000 in
theorem d_WM_isLevel_13 : decode b_WM_isLevel 13 = .ok (.goto 4, 3) := by decide +kernel
set_option maxRecDepth 100000 in
theorem d_WM_isLevel_16 : decode b_WM_isLevel 16 = .ok (.iconst 0, 1) := by decide +kernel
set_option maxRecDepth 100000 in
theorem d_WM_isLevel_17 : decode b_WM_isLevel 17 = .ok (.ireturn, 1) := by decide +kernel
set_option maxRecDepth 100000 in
theorem d_WM_isOars_0 : decode b_WM_isOars 0 = .ok (.iload_n 0, 1) := by decide +kernel
set_option maxRecDepth 100000 in
theorem d_WM_isOars_1 : decode b_WM_isOars 1 = .ok (.iconst 1, 1) := by decide +kernel
set_option maxRecDepth 100000 in
theorem d_WM_isOars_2 : decode b_WM_isOars 2 = .ok (.if_icmp .eq 8, 3) := by decide +kernel
set_option maxRecDepth 100000 in
theorem d_WM_isOars_5 : decode b_WM_isOars 5 = .ok (.iload_n 0, 1) := by decide +kernel
set_option maxRecDepth 100000 in
theorem d_WM_isOars_6 : decode b_WM_isOars 6 = .ok (.iconst 2, 1) := by decide +kernel
set_option maxRecDepth 100000 in
theorem d_WM_isOars_7 : decode b_WM_isOars 7 = .ok (.if_icmp .ne 7, 3) := by decide +kernel
set_option maxRecDepth 100000 in
theorem d_WM_isOars_10 : decode b_WM_isOars 10 = .ok (.iconst 1, 1) := by decide +kernel
set_option maxRecDepth 100000 in
theorem d_WM_isOars_11 : decode b_WM_isOars 11 = .ok (.goto 4, 3) := by decide +kernel
set_option maxRecDepth 100000 in
theorem d_WM_isOars_14 : decode b_WM_isOars 14 = .ok (.iconst 0, 1) := by decide +kernel
set_option maxRecDepth 100000 in
theorem d_WM_isOars_15 : decode b_WM_isOars 15 = .ok (.ireturn, 1) := by decide +kernel
set_option maxRecDepth 100000 in
theorem d_WM_isPension_0 : decode b_WM_isPension 0 = .ok (.iload_n 0, 1) := by decide +kernel
set_option maxRecDepth 100000 in
theorem d_WM_isPension_1 : decode b_WM_isPension 1 = .ok (.iconst 1, 1) := by decide +kernel
set_option maxRecDepth 100000 in
theorem d_WM_isPension_2 : decode b_WM_isPension 2 = .ok (.if_icmp .lt 25, 3) := by decide +kernel
set_option maxRecDepth 100000 in
theorem d_WM_isPension_5 : decode b_WM_isPension 5 = .ok (.iload_n 0, 1) := by decide +kernel
set_option maxRecDepth 100000 in
theorem d_WM_isPension_6 : decode b_WM_isPension 6 = .ok (.sipush 10000, 3) := by decide +kernel
set_option maxRecDepth 100000 in
theorem d_WM_isPension_9 : decode b_WM_isPension 9 = .ok (.if_icmp .gt 18, 3) := by decide +kernel
set_option maxRecDepth 100000 in
theorem d_WM_isPension_12 : decode b_WM_isPension 12 = .ok (.iload_n 1, 1) := by decide +kernel
set_option maxRecDepth 100000 in
theorem d_WM_isPension_13 : decode b_WM_isPension 13 = .ok (.ifCond .lt 14, 3) := by decide +kernel
set_option maxRecDepth 100000 in
theorem d_WM_isPension_16 : decode b_WM_isPension 16 = .ok (.iload_n 1, 1) := by decide +kernel
set_option maxRecDepth 100000 in
theorem d_WM_isPension_17 : decode b_WM_isPension 17 = .ok (.sipush 9999, 3) := by decide +kernel
set_option maxRecDepth 100000 in
theorem d_WM_isPension_20 : decode b_WM_isPension 20 = .ok (.if_icmp .gt 7, 3) := by decide +kernel
set_option maxRecDepth 100000 in
theorem d_WM_isPension_23 : decode b_WM_isPension 23 = .ok (.iconst 1, 1) := by decide +kernel
set_option maxRecDepth 100000 in
theorem d_WM_isPension_24 : decode b_WM_isPension 24 = .ok (.goto 4, 3) := by decide +kernel
set_option maxRecDepth 100000 in
theorem d_WM_isPension_27 : decode b_WM_isPension 27 = .ok (.iconst 0, 1) := by decide +kernel
set_option maxRecDepth 100000 in
theorem d_WM_isPension_28 : decode b_WM_isPension 28 = .ok (.ireturn, 1) := by decide +kernel
set_option maxRecDepth 100000 in
theorem d_WM_isSunday_0 : decode b_WM_isSunday 0 = .ok (.iload_n 0, 1) := by decide +kernel
set_option maxRecDepth 100000 in
theorem d_WM_isSunday_1 : decode b_WM_isSunday 1 = .ok (.bipush 7, 2) := by decide +kernel
set_option maxRecDepth 100000 in
theorem d_WM_isSunday_3 : decode b_WM_isSunday 3 = .ok (.irem, 1) := by decide +kernel
set_option maxRecDepth 100000 in
theorem d_WM_isSunday_4 : decode b_WM_isSunday 4 = .ok (.ifCond .ne 7, 3) := by decide +kernel
set_option maxRecDepth 100000 in
theorem d_WM_isSunday_7 : decode b_WM_isSunday 7 = .ok (.iconst 1, 1) := by decide +kernel
set_option maxRecDepth 100000 in
theorem d_WM_isSunday_8 : decode b_WM_isSunday 8 = .ok (.goto 4, 3) := by decide +kernel
set_option maxRecDepth 100000 in
theorem d_WM_isSunday_11 : decode b_WM_isSunday 11 = .ok (.iconst 0, 1) := by decide +kernel
set_option maxRecDepth 100000 in
theorem d_WM_isSunday_12 : decode b_WM_isSunday 12 = .ok (.ireturn, 1) := by decide +kernel
set_option maxRecDepth 100000 in
theorem d_WM_join_0 : decode b_WM_join 0 = .ok (.aload_n 0, 1) := by decide +kernel
set_option maxRecDepth 100000 in
theorem d_WM_join_1 : decode b_WM_join 1 = .ok (.iload_n 2, 1) := by decide +kernel
set_option maxRecDepth 100000 in
theorem d_WM_join_2 : decode b_WM_join 2 = .ok (.invokevirtual 107, 3) := by decide +kernel
set_option maxRecDepth 100000 in
theorem d_WM_join_5 : decode b_WM_join 5 = .ok (.astore_n 3, 1) := by decide +kernel
set_option maxRecDepth 100000 in
theorem d_WM_join_6 : decode b_WM_join 6 = .ok (.aload_n 3, 1) := by decide +kernel
set_option maxRecDepth 100000 in
theorem d_WM_join_7 : decode b_WM_join 7 = .ok (.ifnull 14, 3) := by decide +kernel
set_option maxRecDepth 100000 in
theorem d_WM_join_10 : decode b_WM_join 10 = .ok (.aload_n 0, 1) := by decide +kernel
set_option maxRecDepth 100000 in
theorem d_WM_join_11 : decode b_WM_join 11 = .ok (.getfield 12, 3) := by decide +kernel
set_option maxRecDepth 100000 in
theorem d_WM_join_14 : decode b_WM_join 14 = .ok (.iload_n 1, 1) := by decide +kernel
set_option maxRecDepth 100000 in
theorem d_WM_join_15 : decode b_WM_join 15 = .ok (.invokevirtual 167, 3) := by decide +kernel
set_option maxRecDepth 100000 in
theorem d_WM_join_18 : decode b_WM_join 18 = .ok (.ifCond .ne 5, 3) := by decide +kernel
set_option maxRecDepth 100000 in
theorem d_WM_join_21 : decode b_WM_join 21 = .ok (.iconst (-1), 1) := by decide +kernel
set_option maxRecDepth 100000 in
theorem d_WM_join_22 : decode b_WM_join 22 = .ok (.ireturn, 1) := by decide +kernel
set_option maxRecDepth 100000 in
theorem d_WM_leave_0 : decode b_WM_leave 0 = .ok (.aload_n 0, 1) := by decide +kernel
set_option maxRecDepth 100000 in
theorem d_WM_leave_1 : decode b_WM_leave 1 = .ok (.iload_n 1, 1) := by decide +kernel
set_option maxRecDepth 100000 in
theorem d_WM_leave_2 : decode b_WM_leave 2 = .ok (.invokevirtual 107, 3) := by decide +kernel
set_option maxRecDepth 100000 in
theorem d_WM_leave_5 : decode b_WM_leave 5 = .ok (.astore_n 2, 1) := by decide +kernel
set_option maxRecDepth 100000 in
theorem d_WM_leave_6 : decode b_WM_leave 6 = .ok (.aload_n 2, 1) := by decide +kernel
set_option maxRecDepth 100000 in
theorem d_WM_leave_7 : decode b_WM_leave 7 = .ok (.ifnonnull 5, 3) := by decide +kernel
set_option maxRecDepth 100000 in
theorem d_WM_leave_10 : decode b_WM_leave 10 = .ok (.iconst (-1), 1) := by decide +kernel
set_option maxRecDepth 100000 in
theorem d_WM_leave_11 : decode b_WM_leave 11 = .ok (.ireturn, 1) := by decide +kernel
set_option maxRecDepth 100000 in
theorem d_WM_leave_12 : decode b_WM_leave 12 = .ok (.aload_n 2, 1) := by decide +kernel
set_option maxRecDepth 100000 in
theorem d_WM_leave_13 : decode b_WM_leave 13 = .ok (.getfield 145, 3) := by decide +kernel
set_option maxRecDepth 100000 in
theorem d_WM_leave_16 : decode b_WM_leave 16 = .ok (.iconst (-1), 1) := by decide +kernel
set_option maxRecDepth 100000 in
theorem d_WM_leave_17 : decode b_WM_leave 17 = .ok (.if_icmp .ne 6, 3) := by decide +kernel
set_option maxRecDepth 100000 in
theorem d_WM_leave_20 : decode b_WM_leave 20 = .ok (.bipush (-2), 2) := by decide +kernel
set_option maxRecDepth 100000 in
theorem d_WM_leave_22 : decode b_WM_leave 22 = .ok (.ireturn, 1) := by decide +kernel
set_option maxRecDepth 100000 in
theorem d_WM_level_0 : decode b_WM_level 0 = .ok (.iload_n 1, 1) := by decide +kernel
set_option maxRecDepth 100000 in
theorem d_WM_level_1 : decode b_WM_level 1 = .ok (.invokestatic 75, 3) := by decide +kernel
set_option maxRecDepth 100000 in
theorem d_WM_level_4 : decode b_WM_level 4 = .ok (.ifCond .eq 17, 3) := by decide +kernel
set_option maxRecDepth 100000 in
theorem d_WM_level_7 : decode b_WM_level 7 = .ok (.iload_n 2, 1) := by decide +kernel
set_option maxRecDepth 100000 in
theorem d_WM_level_8 : decode b_WM_level 8 = .ok (.invokestatic 79, 3) := by decide +kernel
set_option maxRecDepth 100000 in
theorem d_WM_level_11 : decode b_WM_level 11 = .ok (.ifCond .eq 10, 3) := by decide +kernel
set_option maxRecDepth 100000 in
theorem d_WM_level_14 : decode b_WM_level 14 = .ok (.iload_n 3, 1) := by decide +kernel
set_option maxRecDepth 100000 in
theorem d_WM_level_15 : decode b_WM_level 15 = .ok (.invokestatic 82, 3) := by decide +kernel
set_option maxRecDepth 100000 in
theorem d_WM_level_18 : decode b_WM_level 18 = .ok (.ifCond .ne 5, 3) := by decide +kernel
set_option maxRecDepth 100000 in
theorem d_WM_level_21 : decode b_WM_level 21 = .ok (.iconst (-1), 1) := by decide +kernel
set_option maxRecDepth 100000 in
theorem d_WM_level_22 : decode b_WM_level 22 = .ok (.ireturn, 1) := by decide +kernel
set_option maxRecDepth 100000 in
theorem d_WM_level_23 : decode b_WM_level 23 = .ok (.aload_n 0, 1) := by decide +kernel
set_option maxRecDepth 100000 in
theorem d_WM_level_24 : decode b_WM_level 24 = .ok (.getfield 12, 3) := by decide +kernel
set_option maxRecDepth 100000 in
theorem d_WM_level_27 : decode b_WM_level 27 = .ok (.iload_n 1, 1) := by decide +kernel
set_option maxRecDepth 100000 in
theorem d_WM_level_28 : decode b_WM_level 28 = .ok (.iload_n 2, 1) := by decide +kernel
set_option maxRecDepth 100000 in
theorem d_WM_level_29 : decode b_WM_level 29 = .ok (.iload_n 3, 1) := by decide +kernel
set_option maxRecDepth 100000 in
theorem d_WM_level_30 : decode b_WM_level 30 = .ok (.invokevirtual 85, 3) := by decide +kernel
set_option maxRecDepth 100000 in
theorem d_WM_level_33 : decode b_WM_level 33 = .ok (.iconst 1, 1) := by decide +kernel
set_option maxRecDepth 100000 in
theorem d_WM_level_34 : decode b_WM_level 34 = .ok (.ireturn, 1) := by decide +kernel
set_option maxRecDepth 100000 in
theorem d_WM_man_0 : decode b_WM_man 0 = .ok (.aload_n 0, 1) := by decide +kernel
set_option maxRecDepth 100000 in
theorem d_WM_man_1 : decode b_WM_man 1 = .ok (.iload_n 1, 1) := by decide +kernel
set_option maxRecDepth 100000 in
theorem d_WM_man_2 : decode b_WM_man 2 = .ok (.invokevirtual 107, 3) := by decide +kernel
set_option maxRecDepth 100000 in
theorem d_WM_man_5 : decode b_WM_man 5 = .ok (.astore_n 3, 1) := by decide +kernel
set_option maxRecDepth 100000 in
theorem d_WM_man_6 : decode b_WM_man 6 = .ok (.aload_n 3, 1) := by decide +kernel
set_option maxRecDepth 100000 in
theorem d_WM_man_7 : decode b_WM_man 7 = .ok (.ifnonnull 6, 3) := by decide +kernel
set_option maxRecDepth 100000 in
theorem d_WM_man_10 : decode b_WM_man 10 = .ok (.bipush (-2), 2) := by decide +kernel
set_option maxRecDepth 100000 in
theorem d_WM_man_12 : decode b_WM_man 12 = .ok (.ireturn, 1) := by decide +kernel
set_option maxRecDepth 100000 in
theorem d_WM_man_13 : decode b_WM_man 13 = .ok (.iload_n 2, 1) := by decide +kernel
set_option maxRecDepth 100000 in
theorem d_WM_man_14 : decode b_WM_man 14 = .ok (.tableswitch 112 0 6 #[42, 47, 74, 79, 85, 90, 107], 42) := by decide +kernel
set_option maxRecDepth 100000 in
theorem d_WM_man_56 : decode b_WM_man 56 = .ok (.aload_n 3, 1) := by decide +kernel
set_option maxRecDepth 100000 in
theorem d_WM_man_57 : decode b_WM_man 57 = .ok (.getfield 111, 3) := by decide +kernel
set_option maxRecDepth 100000 in
theorem d_WM_man_60 : decode b_WM_man 60 = .ok (.ireturn, 1) := by decide +kernel
set_option maxRecDepth 100000 in
theorem d_WM_man_61 : decode b_WM_man 61 = .ok (.aload_n 3, 1) := by decide +kernel
set_option maxRecDepth 100000 in
theorem d_WM_man_62 : decode b_WM_man 62 = .ok (.getfield 119, 3) := by decide +kernel
set_option maxRecDepth 100000 in
theorem d_WM_man_65 : decode b_WM_man 65 = .ok (.ifnull 21, 3) := by decide +kernel
set_option maxRecDepth 100000 in
theorem d_WM_man_86 : decode b_WM_man 86 = .ok (.iconst (-1), 1) := by decide +kernel
set_option maxRecDepth 100000 in
theorem d_WM_man_87 : decode b_WM_man 87 = .ok (.ireturn, 1) := by decide +kernel
set_option maxRecDepth 100000 in
theorem d_WM_man_88 : decode b_WM_man 88 = .ok (.aload_n 3, 1) := by decide +kernel
set_option maxRecDepth 100000 in
theorem d_WM_man_89 : decode b_WM_man 89 = .ok (.getfield 145, 3) := by decide +kernel
set_option maxRecDepth 100000 in
theorem d_WM_man_92 : decode b_WM_man 92 = .ok (.ireturn, 1) := by decide +kernel
set_option maxRecDepth 100000 in
theorem d_WM_man_93 : decode b_WM_man 93 = .ok (.aload_n 0, 1) := by decide +kernel
set_option maxRecDepth 100000 in
theorem d_WM_man_94 : decode b_WM_man 94 = .ok (.aload_n 3, 1) := by decide +kernel
set_option maxRecDepth 100000 in
theorem d_WM_man_95 : decode b_WM_man 95 = .ok (.invokevirtual 148, 3) := by decide +kernel
set_option maxRecDepth 100000 in
theorem d_WM_man_98 : decode b_WM_man 98 = .ok (.ireturn, 1) := by decide +kernel
set_option maxRecDepth 100000 in
theorem d_WM_man_99 : decode b_WM_man 99 = .ok (.aload_n 3, 1) := by decide +kernel
set_option maxRecDepth 100000 in
theorem d_WM_man_100 : decode b_WM_man 100 = .ok (.getfield 152, 3) := by decide +kernel
set_option maxRecDepth 100000 in
theorem d_WM_man_103 : decode b_WM_man 103 = .ok (.ireturn, 1) := by decide +kernel
set_option maxRecDepth 100000 in
theorem d_WM_man_104 : decode b_WM_man 104 = .ok (.aload_n 3, 1) := by decide +kernel
set_option maxRecDepth 100000 in
theorem d_WM_man_105 : decode b_WM_man 105 = .ok (.aload_n 0, 1) := by decide +kernel
set_option maxRecDepth 100000 in
theorem d_WM_man_106 : decode b_WM_man 106 = .ok (.getfield 155, 3) := by decide +kernel
set_option maxRecDepth 100000 in
theorem d_WM_man_109 : decode b_WM_man 109 = .ok (.invokevirtual 158, 3) := by decide +kernel
set_option maxRecDepth 100000 in
theorem d_WM_man_112 : decode b_WM_man 112 = .ok (.ifCond .eq 7, 3) := by decide +kernel
set_option maxRecDepth 100000 in
theorem d_WM_man_119 : decode b_WM_man 119 = .ok (.iconst 0, 1) := by decide +kernel
set_option maxRecDepth 100000 in
theorem d_WM_man_120 : decode b_WM_man 120 = .ok (.ireturn, 1) := by decide +kernel
set_option maxRecDepth 100000 in
theorem d_WM_man_121 : decode b_WM_man 121 = .ok (.aload_n 3, 1) := by decide +kernel
set_option maxRecDepth 100000 in
theorem d_WM_man_122 : decode b_WM_man 122 = .ok (.getfield 161, 3) := by decide +kernel
set_option maxRecDepth 100000 in
theorem d_WM_man_125 : decode b_WM_man 125 = .ok (.ireturn, 1) := by decide +kernel
set_option maxRecDepth 100000 in
theorem d_WM_man_126 : decode b_WM_man 126 = .ok (.bipush (-2), 2) := by decide +kernel
set_option maxRecDepth 100000 in
theorem d_WM_man_128 : decode b_WM_man 128 = .ok (.ireturn, 1) := by decide +kernel
set_option maxRecDepth 100000 in
theorem d_WM_manAt_0 : decode b_WM_manAt 0 = .ok (.iload_n 1, 1) := by decide +kernel
set_option maxRecDepth 100000 in
theorem d_WM_manAt_1 : decode b_WM_manAt 1 = .ok (.ifCond .lt 18, 3) := by decide +kernel
set_option maxRecDepth 100000 in
theorem d_WM_manAt_4 : decode b_WM_manAt 4 = .ok (.iload_n 1, 1) := by decide +kernel
set_option maxRecDepth 100000 in
theorem d_WM_manAt_5 : decode b_WM_manAt 5 = .ok (.bipush 40, 2) := by decide +kernel
set_option maxRecDepth 100000 in
theorem d_WM_manAt_7 : decode b_WM_manAt 7 = .ok (.if_icmp .ge 12, 3) := by decide +kernel
set_option maxRecDepth 100000 in
theorem d_WM_manAt_10 : decode b_WM_manAt 10 = .ok (.aload_n 0, 1) := by decide +kernel
set_option maxRecDepth 100000 in
theorem d_WM_manAt_11 : decode b_WM_manAt 11 = .ok (.getfield 18, 3) := by decide +kernel
set_option maxRecDepth 100000 in
theorem d_WM_manAt_14 : decode b_WM_manAt 14 = .ok (.iload_n 1, 1) := by decide +kernel
set_option maxRecDepth 100000 in
theorem d_WM_manAt_15 : decode b_WM_manAt 15 = .ok (.aaload, 1) := by decide +kernel
set_option maxRecDepth 100000 in
theorem d_WM_manAt_16 : decode b_WM_manAt 16 = .ok (.goto 4, 3) := by decide +kernel
set_option maxRecDepth 100000 in
theorem d_WM_manAt_19 : decode b_WM_manAt 19 = .ok (.aconst_null, 1) := by decide +kernel
set_option maxRecDepth 100000 in
theorem d_WM_manAt_20 : decode b_WM_manAt 20 = .ok (.areturn, 1) := by decide +kernel
set_option maxRecDepth 100000 in
theorem d_WM_menThatAre_0 : decode b_WM_menThatAre 0 = .ok (.iconst 0, 1) := by decide +kernel
set_option maxRecDepth 100000 in
theorem d_WM_menThatAre_1 : decode b_WM_menThatAre 1 = .ok (.istore_n 2, 1) := by decide +kernel
set_option maxRecDepth 100000 in
theorem d_WM_menThatAre_2 : decode b_WM_menThatAre 2 = .ok (.iconst 0, 1) := by decide +kernel
set_option maxRecDepth 100000 in
theorem d_WM_menThatAre_3 : decode b_WM_menThatAre 3 = .ok (.istore_n 3, 1) := by decide +kernel
set_option maxRecDepth 100000 in
theorem d_WM_menThatAre_4 : decode b_WM_menThatAre 4 = .ok (.iload_n 3, 1) := by decide +kernel
set_option maxRecDepth 100000 in
theorem d_WM_menThatAre_5 : decode b_WM_menThatAre 5 = .ok (.bipush 40, 2) := by decide +kernel
set_option maxRecDepth 100000 in
theorem d_WM_menThatAre_7 : decode b_WM_menThatAre 7 = .ok (.if_icmp .ge 34, 3) := by decide +kernel
set_option maxRecDepth 100000 in
theorem d_WM_menThatAre_10 : decode b_WM_menThatAre 10 = .ok (.aload_n 0, 1) := by decide +kernel
set_option maxRecDepth 100000 in
theorem d_WM_menThatAre_11 : decode b_WM_menThatAre 11 = .ok (.getfield 18, 3) := by decide +kernel
set_option maxRecDepth 100000 in
theorem d_WM_menThatAre_14 : decode b_WM_menThatAre 14 = .ok (.iload_n 3, 1) := by decide +kernel
set_option maxRecDepth 100000 in
theorem d_WM_menThatAre_15 : decode b_WM_menThatAre 15 = .ok (.aaload, 1) := by decide +kernel
set_option maxRecDepth 100000 in
theorem d_WM_menThatAre_16 : decode b_WM_menThatAre 16 = .ok (.astore 4, 2) := by decide +kernel
set_option maxRecDepth 100000 in
theorem d_WM_menThatAre_18 : decode b_WM_menThatAre 18 = .ok (.aload 4, 2) := by decide +kernel
set_option maxRecDepth 100000 in
theorem d_WM_menThatAre_20 : decode b_WM_menThatAre 20 = .ok (.ifnull 15, 3) := by decide +kernel
set_option maxRecDepth 100000 in
theorem d_WM_menThatAre_23 : decode b_WM_menThatAre 23 = .ok (.aload 4, 2) := by decide +kernel
set_option maxRecDepth 100000 in
theorem d_WM_menThatAre_25 : decode b_WM_menThatAre 25 = .ok (.getfield 111, 3) := by decide +kernel
set_option maxRecDepth 100000 in
theorem d_WM_menThatAre_28 : decode b_WM_menThatAre 28 = .ok (.iload_n 1, 1) := by decide +kernel
set_option maxRecDepth 100000 in
theorem d_WM_menThatAre_29 : decode b_WM_menThatAre 29 = .ok (.if_icmp .ne 6, 3) := by decide +kernel
set_option maxRecDepth 100000 in
theorem d_WM_menThatAre_32 : decode b_WM_menThatAre 32 = .ok (.iinc 2 1, 3) := by decide +kernel
set_option maxRecDepth 100000 in
theorem d_WM_menThatAre_35 : decode b_WM_menThatAre 35 = .ok (.iinc 3 1, 3) := by decide +kernel
set_option maxRecDepth 100000 in
theorem d_WM_menThatAre_38 : decode b_WM_menThatAre 38 = .ok (.goto (-34), 3) := by decide +kernel
set_option maxRecDepth 100000 in
theorem d_WM_menThatAre_41 : decode b_WM_menThatAre 41 = .ok (.iload_n 2, 1) := by decide +kernel
set_option maxRecDepth 100000 in
theorem d_WM_menThatAre_42 : decode b_WM_menThatAre 42 = .ok (.ireturn, 1) := by decide +kernel
set_option maxRecDepth 100000 in
theorem d_WM_minutes_0 : decode b_WM_minutes 0 = .ok (.iload_n 1, 1) := by decide +kernel
set_option maxRecDepth 100000 in
theorem d_WM_minutes_1 : decode b_WM_minutes 1 = .ok (.iconst 1, 1) := by decide +kernel
set_option maxRecDepth 100000 in
theorem d_WM_minutes_2 : decode b_WM_minutes 2 = .ok (.if_icmp .lt 22, 3) := by decide +kernel
set_option maxRecDepth 100000 in
theorem d_WM_minutes_5 : decode b_WM_minutes 5 = .ok (.iload_n 1, 1) := by decide +kernel
set_option maxRecDepth 100000 in
theorem d_WM_minutes_6 : decode b_WM_minutes 6 = .ok (.sipush 1440, 3) := by decide +kernel
set_option maxRecDepth 100000 in
theorem d_WM_minutes_9 : decode b_WM_minutes 9 = .ok (.if_icmp .gt 15, 3) := by decide +kernel
set_option maxRecDepth 100000 in
theorem d_WM_minutes_12 : decode b_WM_minutes 12 = .ok (.iload_n 1, 1) := by decide +kernel
set_option maxRecDepth 100000 in
theorem d_WM_minutes_13 : decode b_WM_minutes 13 = .ok (.ldc_w 270, 3) := by decide +kernel
set_option maxRecDepth 100000 in
theorem d_WM_minutes_16 : decode b_WM_minutes 16 = .ok (.aload_n 0, 1) := by decide +kernel
set_option maxRecDepth 100000 in
theorem d_WM_minutes_17 : decode b_WM_minutes 17 = .ok (.getfield 155, 3) := by decide +kernel
set_option maxRecDepth 100000 in
theorem d_WM_minutes_20 : decode b_WM_minutes 20 = .ok (.isub, 1) := by decide +kernel
set_option maxRecDepth 100000 in
theorem d_WM_minutes_21 : decode b_WM_minutes 21 = .ok (.if_icmp .le 5, 3) := by decide +kernel
set_option maxRecDepth 100000 in
theorem d_WM_minutes_24 : decode b_WM_minutes 24 = .ok (.iconst (-1), 1) := by decide +kernel
set_option maxRecDepth 100000 in
theorem d_WM_minutes_25 : decode b_WM_minutes 25 = .ok (.ireturn, 1) := by decide +kernel
set_option maxRecDepth 100000 in
theorem d_WM_minutes_26 : decode b_WM_minutes 26 = .ok (.aload_n 0, 1) := by decide +kernel
set_option maxRecDepth 100000 in
theorem d_WM_minutes_27 : decode b_WM_minutes 27 = .ok (.getfield 155, 3) := by decide +kernel
set_option maxRecDepth 100000 in
theorem d_WM_minutes_30 : decode b_WM_minutes 30 = .ok (.iload_n 1, 1) := by decide +kernel
set_option maxRecDepth 100000 in
theorem d_WM_minutes_31 : decode b_WM_minutes 31 = .ok (.iadd, 1) := by decide +kernel
set_option maxRecDepth 100000 in
theorem d_WM_minutes_32 : decode b_WM_minutes 32 = .ok (.sipush 720, 3) := by decide +kernel
set_option maxRecDepth 100000 in
theorem d_WM_minutes_35 : decode b_WM_minutes 35 = .ok (.idiv, 1) := by decide +kernel
set_option maxRecDepth 100000 in
theorem d_WM_minutes_36 : decode b_WM_minutes 36 = .ok (.istore_n 2, 1) := by decide +kernel
set_option maxRecDepth 100000 in
theorem d_WM_minutes_37 : decode b_WM_minutes 37 = .ok (.aload_n 0, 1) := by decide +kernel
set_option maxRecDepth 100000 in
theorem d_WM_minutes_38 : decode b_WM_minutes 38 = .ok (.invokevirtual 97, 3) := by decide +kernel
set_option maxRecDepth 100000 in
theorem d_WM_minutes_41 : decode b_WM_minutes 41 = .ok (.iconst 1, 1) := by decide +kernel
set_option maxRecDepth 100000 in
theorem d_WM_minutes_42 : decode b_WM_minutes 42 = .ok (.iadd, 1) := by decide +kernel
set_option maxRecDepth 100000 in
theorem d_WM_minutes_43 : decode b_WM_minutes 43 = .ok (.istore_n 3, 1) := by decide +kernel
set_option maxRecDepth 100000 in
theorem d_WM_minutes_44 : decode b_WM_minutes 44 = .ok (.iload_n 3, 1) := by decide +kernel
set_option maxRecDepth 100000 in
theorem d_WM_minutes_45 : decode b_WM_minutes 45 = .ok (.iload_n 2, 1) := by decide +kernel
set_option maxRecDepth 100000 in
theorem d_WM_minutes_46 : decode b_WM_minutes 46 = .ok (.if_icmp .gt 24, 3) := by decide +kernel
set_option maxRecDepth 100000 in
theorem d_WM_minutes_49 : decode b_WM_minutes 49 = .ok (.aload_n 0, 1) := by decide +kernel
set_option maxRecDepth 100000 in
theorem d_WM_minutes_50 : decode b_WM_minutes 50 = .ok (.iload_n 3, 1) := by decide +kernel
set_option maxRecDepth 100000 in
theorem d_WM_minutes_51 : decode b_WM_minutes 51 = .ok (.iconst 1, 1) := by decide +kernel
set_option maxRecDepth 100000 in
theorem d_WM_minutes_52 : decode b_WM_minutes 52 = .ok (.isub, 1) := by decide +kernel
set_option maxRecDepth 100000 in
theorem d_WM_minutes_53 : decode b_WM_minutes 53 = .ok (.invokevirtual 271, 3) := by decide +kernel
set_option maxRecDepth 100000 in
theorem d_WM_minutes_56 : decode b_WM_minutes 56 = .ok (.aload_n 0, 1) := by decide +kernel
set_option maxRecDepth 100000 in
theorem d_WM_minutes_57 : decode b_WM_minutes 57 = .ok (.getfield 50, 3) := by decide +kernel
set_option maxRecDepth 100000 in
theorem d_WM_minutes_60 : decode b_WM_minutes 60 = .ok (.iload_n 3, 1) := by decide +kernel
set_option maxRecDepth 100000 in
theorem d_WM_minutes_61 : decode b_WM_minutes 61 = .ok (.invokevirtual 274, 3) := by decide +kernel
set_option maxRecDepth 100000 in
theorem d_WM_minutes_64 : decode b_WM_minutes 64 = .ok (.iinc 3 1, 3) := by decide +kernel
set_option maxRecDepth 100000 in
theorem d_WM_minutes_67 : decode b_WM_minutes 67 = .ok (.goto (-23), 3) := by decide +kernel
set_option maxRecDepth 100000 in
theorem d_WM_minutes_70 : decode b_WM_minutes 70 = .ok (.aload_n 0, 1) := by decide +kernel
set_option maxRecDepth 100000 in
theorem d_WM_minutes_71 : decode b_WM_minutes 71 = .ok (.dup, 1) := by decide +kernel
set_option maxRecDepth 100000 in
theorem d_WM_minutes_72 : decode b_WM_minutes 72 = .ok (.getfield 155, 3) := by decide +kernel
set_option maxRecDepth 100000 in
theorem d_WM_minutes_75 : decode b_WM_minutes 75 = .ok (.iload_n 1, 1) := by decide +kernel
set_option maxRecDepth 100000 in
theorem d_WM_minutes_76 : decode b_WM_minutes 76 = .ok (.iadd, 1) := by decide +kernel
set_option maxRecDepth 100000 in
theorem d_WM_minutes_77 : decode b_WM_minutes 77 = .ok (.putfield 155, 3) := by decide +kernel
set_option maxRecDepth 100000 in
theorem d_WM_minutes_80 : decode b_WM_minutes 80 = .ok (.aload_n 0, 1) := by decide +kernel
set_option maxRecDepth 100000 in
theorem d_WM_minutes_81 : decode b_WM_minutes 81 = .ok (.getfield 155, 3) := by decide +kernel
set_option maxRecDepth 100000 in
theorem d_WM_minutes_84 : decode b_WM_minutes 84 = .ok (.ireturn, 1) := by decide +kernel
set_option maxRecDepth 100000 in
theorem d_WM_numberInForce_0 : decode b_WM_numberInForce 0 = .ok (.aload_n 0, 1) := by decide +kernel
set_option maxRecDepth 100000 in
theorem d_WM_numberInForce_1 : decode b_WM_numberInForce 1 = .ok (.getfield 210, 3) := by decide +kernel
set_option maxRecDepth 100000 in
theorem d_WM_numberInForce_4 : decode b_WM_numberInForce 4 = .ok (.iconst 1, 1) := by decide +kernel
set_option maxRecDepth 100000 in
theorem d_WM_numberInForce_5 : decode b_WM_numberInForce 5 = .ok (.isub, 1) := by decide +kernel
set_option maxRecDepth 100000 in
theorem d_WM_numberInForce_6 : decode b_WM_numberInForce 6 = .ok (.istore_n 3, 1) := by decide +kernel
set_option maxRecDepth 100000 in
theorem d_WM_numberInForce_7 : decode b_WM_numberInForce 7 = .ok (.iload_n 3, 1) := by decide +kernel
set_option maxRecDepth 100000 in
theorem d_WM_numberInForce_8 : decode b_WM_numberInForce 8 = .ok (.ifCond .lt 41, 3) := by decide +kernel
set_option maxRecDepth 100000 in
theorem d_WM_numberInForce_49 : decode b_WM_numberInForce 49 = .ok (.bipush (-2), 2) := by decide +kernel
set_option maxRecDepth 100000 in
theorem d_WM_numberInForce_51 : decode b_WM_numberInForce 51 = .ok (.ireturn, 1) := by decide +kernel
set_option maxRecDepth 100000 in
theorem d_WM_order_0 : decode b_WM_order 0 = .ok (.iload_n 1, 1) := by decide +kernel
set_option maxRecDepth 100000 in
theorem d_WM_order_1 : decode b_WM_order 1 = .ok (.invokestatic 75, 3) := by decide +kernel
set_option maxRecDepth 100000 in
theorem d_WM_order_4 : decode b_WM_order 4 = .ok (.ifCond .ne 5, 3) := by decide +kernel
set_option maxRecDepth 100000 in
theorem d_WM_order_7 : decode b_WM_order 7 = .ok (.iconst (-1), 1) := by decide +kernel
set_option maxRecDepth 100000 in
theorem d_WM_order_8 : decode b_WM_order 8 = .ok (.ireturn, 1) := by decide +kernel
set_option maxRecDepth 100000 in
theorem d_WM_order_9 : decode b_WM_order 9 = .ok (.aload_n 0, 1) := by decide +kernel
set_option maxRecDepth 100000 in
theorem d_WM_order_10 : decode b_WM_order 10 = .ok (.getfield 210, 3) := by decide +kernel
set_option maxRecDepth 100000 in
theorem d_WM_order_13 : decode b_WM_order 13 = .ok (.bipush 20, 2) := by decide +kernel
set_option maxRecDepth 100000 in
theorem d_WM_order_15 : decode b_WM_order 15 = .ok (.if_icmp .lt 6, 3) := by decide +kernel
set_option maxRecDepth 100000 in
theorem d_WM_order_21 : decode b_WM_order 21 = .ok (.aload_n 0, 1) := by decide +kernel
set_option maxRecDepth 100000 in
theorem d_WM_order_22 : decode b_WM_order 22 = .ok (.getfield 43, 3) := by decide +kernel
set_option maxRecDepth 100000 in
theorem d_WM_order_25 : decode b_WM_order 25 = .ok (.aload_n 0, 1) := by decide +kernel
set_option maxRecDepth 100000 in
theorem d_WM_order_26 : decode b_WM_order 26 = .ok (.getfield 55, 3) := by decide +kernel
set_option maxRecDepth 100000 in
theorem d_WM_order_29 : decode b_WM_order 29 = .ok (.invokevirtual 213, 3) := by decide +kernel
set_option maxRecDepth 100000 in
theorem d_WM_order_32 : decode b_WM_order 32 = .ok (.istore_n 2, 1) := by decide +kernel
set_option maxRecDepth 100000 in
theorem d_WM_order_33 : decode b_WM_order 33 = .ok (.aload_n 0, 1) := by decide +kernel
set_option maxRecDepth 100000 in
theorem d_WM_order_34 : decode b_WM_order 34 = .ok (.getfield 43, 3) := by decide +kernel
set_option maxRecDepth 100000 in
theorem d_WM_order_37 : decode b_WM_order 37 = .ok (.iconst 0, 1) := by decide +kernel
set_option maxRecDepth 100000 in
theorem d_WM_order_38 : decode b_WM_order 38 = .ok (.putfield 207, 3) := by decide +kernel
set_option maxRecDepth 100000 in
theorem d_WM_order_41 : decode b_WM_order 41 = .ok (.iload_n 2, 1) := by decide +kernel
set_option maxRecDepth 100000 in
theorem d_WM_order_42 : decode b_WM_order 42 = .ok (.iconst (-1), 1) := by decide +kernel
set_option maxRecDepth 100000 in
theorem d_WM_order_43 : decode b_WM_order 43 = .ok (.if_icmp .eq 8, 3) := by decide +kernel
set_option maxRecDepth 100000 in
theorem d_WM_order_46 : decode b_WM_order 46 = .ok (.bipush (-100), 2) := by decide +kernel
set_option maxRecDepth 100000 in
theorem d_WM_order_48 : decode b_WM_order 48 = .ok (.iload_n 2, 1) := by decide +kernel
set_option maxRecDepth 100000 in
theorem d_WM_order_49 : decode b_WM_order 49 = .ok (.isub, 1) := by decide +kernel
set_option maxRecDepth 100000 in
theorem d_WM_order_50 : decode b_WM_order 50 = .ok (.ireturn, 1) := by decide +kernel
set_option maxRecDepth 100000 in
theorem d_WM_orderAt_0 : decode b_WM_orderAt 0 = .ok (.iload_n 1, 1) := by decide +kernel
set_option maxRecDepth 100000 in
theorem d_WM_orderAt_1 : decode b_WM_orderAt 1 = .ok (.ifCond .lt 20, 3) := by decide +kernel
set_option maxRecDepth 100000 in
theorem d_WM_orderAt_4 : decode b_WM_orderAt 4 = .ok (.iload_n 1, 1) := by decide +kernel
set_option maxRecDepth 100000 in
theorem d_WM_orderAt_5 : decode b_WM_orderAt 5 = .ok (.aload_n 0, 1) := by decide +kernel
set_option maxRecDepth 100000 in
theorem d_WM_orderAt_6 : decode b_WM_orderAt 6 = .ok (.getfield 210, 3) := by decide +kernel
set_option maxRecDepth 100000 in
theorem d_WM_orderAt_9 : decode b_WM_orderAt 9 = .ok (.if_icmp .ge 12, 3) := by decide +kernel
set_option maxRecDepth 100000 in
theorem d_WM_orderAt_21 : decode b_WM_orderAt 21 = .ok (.aconst_null, 1) := by decide +kernel
set_option maxRecDepth 100000 in
theorem d_WM_orderAt_22 : decode b_WM_orderAt 22 = .ok (.areturn, 1) := by decide +kernel
set_option maxRecDepth 100000 in
theorem d_WM_over_0 : decode b_WM_over 0 = .ok (.aload_n 0, 1) := by decide +kernel
set_option maxRecDepth 100000 in
theorem d_WM_over_1 : decode b_WM_over 1 = .ok (.iload_n 1, 1) := by decide +kernel
set_option maxRecDepth 100000 in
theorem d_WM_over_2 : decode b_WM_over 2 = .ok (.invokevirtual 107, 3) := by decide +kernel
set_option maxRecDepth 100000 in
theorem d_WM_over_5 : decode b_WM_over 5 = .ok (.ifnull 10, 3) := by decide +kernel
set_option maxRecDepth 100000 in
theorem d_WM_over_8 : decode b_WM_over 8 = .ok (.iload_n 2, 1) := by decide +kernel
set_option maxRecDepth 100000 in
theorem d_WM_over_9 : decode b_WM_over 9 = .ok (.invokestatic 75, 3) := by decide +kernel
set_option maxRecDepth 100000 in
theorem d_WM_over_12 : decode b_WM_over 12 = .ok (.ifCond .ne 5, 3) := by decide +kernel
set_option maxRecDepth 100000 in
theorem d_WM_over_15 : decode b_WM_over 15 = .ok (.iconst (-1), 1) := by decide +kernel
set_option maxRecDepth 100000 in
theorem d_WM_over_16 : decode b_WM_over 16 = .ok (.ireturn, 1) := by decide +kernel
set_option maxRecDepth 100000 in
theorem d_WM_over_17 : decode b_WM_over 17 = .ok (.iconst 0, 1) := by decide +kernel
set_option maxRecDepth 100000 in
theorem d_WM_over_18 : decode b_WM_over 18 = .ok (.istore_n 3, 1) := by decide +kernel
set_option maxRecDepth 100000 in
theorem d_WM_over_19 : decode b_WM_over 19 = .ok (.iconst 0, 1) := by decide +kernel
set_option maxRecDepth 100000 in
theorem d_WM_over_20 : decode b_WM_over 20 = .ok (.istore 4, 2) := by decide +kernel
set_option maxRecDepth 100000 in
theorem d_WM_over_22 : decode b_WM_over 22 = .ok (.iload 4, 2) := by decide +kernel
set_option maxRecDepth 100000 in
theorem d_WM_over_24 : decode b_WM_over 24 = .ok (.aload_n 0, 1) := by decide +kernel
set_option maxRecDepth 100000 in
theorem d_WM_over_25 : decode b_WM_over 25 = .ok (.getfield 243, 3) := by decide +kernel
set_option maxRecDepth 100000 in
theorem d_WM_over_28 : decode b_WM_over 28 = .ok (.if_icmp .ge 41, 3) := by decide +kernel
set_option maxRecDepth 100000 in
theorem d_WM_over_69 : decode b_WM_over 69 = .ok (.iload_n 3, 1) := by decide +kernel
set_option maxRecDepth 100000 in
theorem d_WM_over_70 : decode b_WM_over 70 = .ok (.ireturn, 1) := by decide +kernel
set_option maxRecDepth 100000 in
theorem d_WM_partPot_0 : decode b_WM_partPot 0 = .ok (.iload_n 1, 1) := by decide +kernel
set_option maxRecDepth 100000 in
theorem d_WM_partPot_1 : decode b_WM_partPot 1 = .ok (.invokestatic 391, 3) := by decide +kernel
set_option maxRecDepth 100000 in
theorem d_WM_partPot_4 : decode b_WM_partPot 4 = .ok (.ifCond .ne 4, 3) := by decide +kernel
set_option maxRecDepth 100000 in
theorem d_WM_partPot_7 : decode b_WM_partPot 7 = .ok (.return_, 1) := by decide +kernel
set_option maxRecDepth 100000 in
theorem d_WM_partPot_8 : decode b_WM_partPot 8 = .ok (.iconst 0, 1) := by decide +kernel
set_option maxRecDepth 100000 in
theorem d_WM_partPot_9 : decode b_WM_partPot 9 = .ok (.istore_n 2, 1) := by decide +kernel
set_option maxRecDepth 100000 in
theorem d_WM_partPot_10 : decode b_WM_partPot 10 = .ok (.iconst 0, 1) := by decide +kernel
set_option maxRecDepth 100000 in
theorem d_WM_partPot_11 : decode b_WM_partPot 11 = .ok (.istore_n 3, 1) := by decide +kernel
set_option maxRecDepth 100000 in
theorem d_WM_partPot_12 : decode b_WM_partPot 12 = .ok (.iload_n 3, 1) := by decide +kernel
set_option maxRecDepth 100000 in
theorem d_WM_partPot_13 : decode b_WM_partPot 13 = .ok (.bipush 40, 2) := by decide +kernel
set_option maxRecDepth 100000 in
theorem d_WM_partPot_15 : decode b_WM_partPot 15 = .ok (.if_icmp .ge 34, 3) := by decide +kernel
set_option maxRecDepth 100000 in
theorem d_WM_partPot_18 : decode b_WM_partPot 18 = .ok (.aload_n 0, 1) := by decide +kernel
set_option maxRecDepth 100000 in
theorem d_WM_partPot_19 : decode b_WM_partPot 19 = .ok (.getfield 18, 3) := by decide +kernel
set_option maxRecDepth 100000 in
theorem d_WM_partPot_22 : decode b_WM_partPot 22 = .ok (.iload_n 3, 1) := by decide +kernel
set_option maxRecDepth 100000 in
theorem d_WM_partPot_23 : decode b_WM_partPot 23 = .ok (.aaload, 1) := by decide +kernel
set_option maxRecDepth 100000 in
theorem d_WM_partPot_24 : decode b_WM_partPot 24 = .ok (.astore 4, 2) := by decide +kernel
set_option maxRecDepth 100000 in
theorem d_WM_partPot_26 : decode b_WM_partPot 26 = .ok (.aload 4, 2) := by decide +kernel
set_option maxRecDepth 100000 in
theorem d_WM_partPot_28 : decode b_WM_partPot 28 = .ok (.ifnull 15, 3) := by decide +kernel
set_option maxRecDepth 100000 in
theorem d_WM_partPot_31 : decode b_WM_partPot 31 = .ok (.aload 4, 2) := by decide +kernel
set_option maxRecDepth 100000 in
theorem d_WM_partPot_33 : decode b_WM_partPot 33 = .ok (.getfield 394, 3) := by decide +kernel
set_option maxRecDepth 100000 in
theorem d_WM_partPot_36 : decode b_WM_partPot 36 = .ok (.iload_n 1, 1) := by decide +kernel
set_option maxRecDepth 100000 in
theorem d_WM_partPot_37 : decode b_WM_partPot 37 = .ok (.if_icmp .ne 6, 3) := by decide +kernel
set_option maxRecDepth 100000 in
theorem d_WM_partPot_43 : decode b_WM_partPot 43 = .ok (.iinc 3 1, 3) := by decide +kernel
set_option maxRecDepth 100000 in
theorem d_WM_partPot_46 : decode b_WM_partPot 46 = .ok (.goto (-34), 3) := by decide +kernel
set_option maxRecDepth 100000 in
theorem d_WM_partPot_49 : decode b_WM_partPot 49 = .ok (.iload_n 2, 1) := by decide +kernel
set_option maxRecDepth 100000 in
theorem d_WM_partPot_50 : decode b_WM_partPot 50 = .ok (.ifCond .ne 4, 3) := by decide +kernel
set_option maxRecDepth 100000 in
theorem d_WM_partPot_53 : decode b_WM_partPot 53 = .ok (.return_, 1) := by decide +kernel
set_option maxRecDepth 100000 in
theorem d_WM_pass_0 : decode b_WM_pass 0 = .ok (.aload_n 0, 1) := by decide +kernel
set_option maxRecDepth 100000 in
theorem d_WM_pass_1 : decode b_WM_pass 1 = .ok (.iload_n 1, 1) := by decide +kernel
set_option maxRecDepth 100000 in
theorem d_WM_pass_2 : decode b_WM_pass 2 = .ok (.invokevirtual 139, 3) := by decide +kernel
set_option maxRecDepth 100000 in
theorem d_WM_pass_5 : decode b_WM_pass 5 = .ok (.istore_n 2, 1) := by decide +kernel
set_option maxRecDepth 100000 in
theorem d_WM_pass_6 : decode b_WM_pass 6 = .ok (.aload_n 0, 1) := by decide +kernel
set_option maxRecDepth 100000 in
theorem d_WM_pass_7 : decode b_WM_pass 7 = .ok (.iload_n 1, 1) := by decide +kernel
set_option maxRecDepth 100000 in
theorem d_WM_pass_8 : decode b_WM_pass 8 = .ok (.invokevirtual 107, 3) := by decide +kernel
set_option maxRecDepth 100000 in
theorem d_WM_pass_11 : decode b_WM_pass 11 = .ok (.astore_n 3, 1) := by decide +kernel
set_option maxRecDepth 100000 in
theorem d_WM_pass_12 : decode b_WM_pass 12 = .ok (.iload_n 2, 1) := by decide +kernel
set_option maxRecDepth 100000 in
theorem d_WM_pass_13 : decode b_WM_pass 13 = .ok (.ifCond .lt 7, 3) := by decide +kernel
set_option maxRecDepth 100000 in
theorem d_WM_pass_20 : decode b_WM_pass 20 = .ok (.iload_n 2, 1) := by decide +kernel
set_option maxRecDepth 100000 in
theorem d_WM_pass_21 : decode b_WM_pass 21 = .ok (.ireturn, 1) := by decide +kernel
set_option maxRecDepth 100000 in
theorem d_WM_pension_0 : decode b_WM_pension 0 = .ok (.iload_n 1, 1) := by decide +kernel
set_option maxRecDepth 100000 in
theorem d_WM_pension_1 : decode b_WM_pension 1 = .ok (.iload_n 2, 1) := by decide +kernel
set_option maxRecDepth 100000 in
theorem d_WM_pension_2 : decode b_WM_pension 2 = .ok (.invokestatic 277, 3) := by decide +kernel
set_option maxRecDepth 100000 in
theorem d_WM_pension_5 : decode b_WM_pension 5 = .ok (.ifCond .ne 5, 3) := by decide +kernel
set_option maxRecDepth 100000 in
theorem d_WM_pension_8 : decode b_WM_pension 8 = .ok (.iconst (-1), 1) := by decide +kernel
set_option maxRecDepth 100000 in
theorem d_WM_pension_9 : decode b_WM_pension 9 = .ok (.ireturn, 1) := by decide +kernel
set_option maxRecDepth 100000 in
theorem d_WM_pension_10 : decode b_WM_pension 10 = .ok (.aload_n 0, 1) := by decide +kernel
set_option maxRecDepth 100000 in
theorem d_WM_pension_11 : decode b_WM_pension 11 = .ok (.getfield 50, 3) := by decide +kernel
set_option maxRecDepth 100000 in
theorem d_WM_pension_14 : decode b_WM_pension 14 = .ok (.getfield 280, 3) := by decide +kernel
set_option maxRecDepth 100000 in
theorem d_WM_pension_17 : decode b_WM_pension 17 = .ok (.bipush 30, 2) := by decide +kernel
set_option maxRecDepth 100000 in
theorem d_WM_pension_19 : decode b_WM_pension 19 = .ok (.if_icmp .lt 8, 3) := by decide +kernel
set_option maxRecDepth 100000 in
theorem d_WM_pension_27 : decode b_WM_pension 27 = .ok (.aload_n 0, 1) := by decide +kernel
set_option maxRecDepth 100000 in
theorem d_WM_pension_28 : decode b_WM_pension 28 = .ok (.getfield 50, 3) := by decide +kernel
set_option maxRecDepth 100000 in
theorem d_WM_pension_31 : decode b_WM_pension 31 = .ok (.iload_n 1, 1) := by decide +kernel
set_option maxRecDepth 100000 in
theorem d_WM_pension_32 : decode b_WM_pension 32 = .ok (.iload_n 2, 1) := by decide +kernel
set_option maxRecDepth 100000 in
theorem d_WM_pension_33 : decode b_WM_pension 33 = .ok (.invokevirtual 300, 3) := by decide +kernel
set_option maxRecDepth 100000 in
theorem d_WM_pension_36 : decode b_WM_pension 36 = .ok (.ireturn, 1) := by decide +kernel
set_option maxRecDepth 100000 in
theorem d_WM_pensioner_0 : decode b_WM_pensioner 0 = .ok (.aload_n 0, 1) := by decide +kernel
set_option maxRecDepth 100000 in
theorem d_WM_pensioner_1 : decode b_WM_pensioner 1 = .ok (.getfield 50, 3) := by decide +kernel
set_option maxRecDepth 100000 in
theorem d_WM_pensioner_4 : decode b_WM_pensioner 4 = .ok (.iload_n 1, 1) := by decide +kernel
set_option maxRecDepth 100000 in
theorem d_WM_pensioner_5 : decode b_WM_pensioner 5 = .ok (.invokevirtual 325, 3) := by decide +kernel
set_option maxRecDepth 100000 in
theorem d_WM_pensioner_8 : decode b_WM_pensioner 8 = .ok (.astore_n 3, 1) := by decide +kernel
set_option maxRecDepth 100000 in
theorem d_WM_pensioner_9 : decode b_WM_pensioner 9 = .ok (.aload_n 3, 1) := by decide +kernel
set_option maxRecDepth 100000 in
theorem d_WM_pensioner_10 : decode b_WM_pensioner 10 = .ok (.ifnonnull 5, 3) := by decide +kernel
set_option maxRecDepth 100000 in
theorem d_WM_pensioner_13 : decode b_WM_pensioner 13 = .ok (.iconst (-1), 1) := by decide +kernel
set_option maxRecDepth 100000 in
theorem d_WM_pensioner_14 : decode b_WM_pensioner 14 = .ok (.ireturn, 1) := by decide +kernel
set_option maxRecDepth 100000 in
theorem d_WM_placeInTurns_0 : decode b_WM_placeInTurns 0 = .ok (.aload_n 1, 1) := by decide +kernel
set_option maxRecDepth 100000 in
theorem d_WM_placeInTurns_1 : decode b_WM_placeInTurns 1 = .ok (.getfield 145, 3) := by decide +kernel
set_option maxRecDepth 100000 in
theorem d_WM_placeInTurns_4 : decode b_WM_placeInTurns 4 = .ok (.iconst (-1), 1) := by decide +kernel
set_option maxRecDepth 100000 in
theorem d_WM_placeInTurns_5 : decode b_WM_placeInTurns 5 = .ok (.if_icmp .ne 5, 3) := by decide +kernel
set_option maxRecDepth 100000 in
theorem d_WM_placeInTurns_8 : decode b_WM_placeInTurns 8 = .ok (.iconst (-1), 1) := by decide +kernel
set_option maxRecDepth 100000 in
theorem d_WM_placeInTurns_9 : decode b_WM_placeInTurns 9 = .ok (.ireturn, 1) := by decide +kernel
set_option maxRecDepth 100000 in
theorem d_WM_row_0 : decode b_WM_row 0 = .ok (.aload_n 0, 1) := by decide +kernel
set_option maxRecDepth 100000 in
theorem d_WM_row_1 : decode b_WM_row 1 = .ok (.iload_n 1, 1) := by decide +kernel
set_option maxRecDepth 100000 in
theorem d_WM_row_2 : decode b_WM_row 2 = .ok (.invokevirtual 174, 3) := by decide +kernel
set_option maxRecDepth 100000 in
theorem d_WM_row_5 : decode b_WM_row 5 = .ok (.astore 5, 2) := by decide +kernel
set_option maxRecDepth 100000 in
theorem d_WM_row_7 : decode b_WM_row 7 = .ok (.aload_n 0, 1) := by decide +kernel
set_option maxRecDepth 100000 in
theorem d_WM_row_8 : decode b_WM_row 8 = .ok (.iload_n 2, 1) := by decide +kernel
set_option maxRecDepth 100000 in
theorem d_WM_row_9 : decode b_WM_row 9 = .ok (.invokevirtual 107, 3) := by decide +kernel
set_option maxRecDepth 100000 in
theorem d_WM_row_12 : decode b_WM_row 12 = .ok (.astore 6, 2) := by decide +kernel
set_option maxRecDepth 100000 in
theorem d_WM_row_14 : decode b_WM_row 14 = .ok (.aload 5, 2) := by decide +kernel
set_option maxRecDepth 100000 in
theorem d_WM_row_16 : decode b_WM_row 16 = .ok (.ifnull 30, 3) := by decide +kernel
set_option maxRecDepth 100000 in
theorem d_WM_row_46 : decode b_WM_row 46 = .ok (.iconst (-1), 1) := by decide +kernel
set_option maxRecDepth 100000 in
theorem d_WM_row_47 : decode b_WM_row 47 = .ok (.ireturn, 1) := by decide +kernel
set_option maxRecDepth 100000 in
theorem d_WM_served_0 : decode b_WM_served 0 = .ok (.aload_n 0, 1) := by decide +kernel
set_option maxRecDepth 100000 in
theorem d_WM_served_1 : decode b_WM_served 1 = .ok (.iload_n 1, 1) := by decide +kernel
set_option maxRecDepth 100000 in
theorem d_WM_served_2 : decode b_WM_served 2 = .ok (.invokevirtual 107, 3) := by decide +kernel
set_option maxRecDepth 100000 in
theorem d_WM_served_5 : decode b_WM_served 5 = .ok (.astore_n 2, 1) := by decide +kernel
set_option maxRecDepth 100000 in
theorem d_WM_served_6 : decode b_WM_served 6 = .ok (.aload_n 2, 1) := by decide +kernel
set_option maxRecDepth 100000 in
theorem d_WM_served_7 : decode b_WM_served 7 = .ok (.ifnonnull 5, 3) := by decide +kernel
set_option maxRecDepth 100000 in
theorem d_WM_served_10 : decode b_WM_served 10 = .ok (.iconst (-1), 1) := by decide +kernel
set_option maxRecDepth 100000 in
theorem d_WM_served_11 : decode b_WM_served 11 = .ok (.ireturn, 1) := by decide +kernel
set_option maxRecDepth 100000 in
theorem d_WM_served_12 : decode b_WM_served 12 = .ok (.aload_n 2, 1) := by decide +kernel
set_option maxRecDepth 100000 in
theorem d_WM_served_13 : decode b_WM_served 13 = .ok (.getfield 119, 3) := by decide +kernel
set_option maxRecDepth 100000 in
theorem d_WM_served_16 : decode b_WM_served 16 = .ok (.astore_n 3, 1) := by decide +kernel
set_option maxRecDepth 100000 in
theorem d_WM_served_17 : decode b_WM_served 17 = .ok (.aload_n 3, 1) := by decide +kernel
set_option maxRecDepth 100000 in
theorem d_WM_served_18 : decode b_WM_served 18 = .ok (.ifnull 11, 3) := by decide +kernel
set_option maxRecDepth 100000 in
theorem d_WM_served_29 : decode b_WM_served 29 = .ok (.bipush (-2), 2) := by decide +kernel
set_option maxRecDepth 100000 in
theorem d_WM_served_31 : decode b_WM_served 31 = .ok (.goto 11, 3) := by decide +kernel
set_option maxRecDepth 100000 in
theorem d_WM_served_42 : decode b_WM_served 42 = .ok (.ireturn, 1) := by decide +kernel
set_option maxRecDepth 100000 in
theorem d_WM_sink_0 : decode b_WM_sink 0 = .ok (.aload_n 0, 1) := by decide +kernel
set_option maxRecDepth 100000 in
theorem d_WM_sink_1 : decode b_WM_sink 1 = .ok (.iload_n 1, 1) := by decide +kernel
set_option maxRecDepth 100000 in
theorem d_WM_sink_2 : decode b_WM_sink 2 = .ok (.invokevirtual 174, 3) := by decide +kernel
set_option maxRecDepth 100000 in
theorem d_WM_sink_5 : decode b_WM_sink 5 = .ok (.astore 4, 2) := by decide +kernel
set_option maxRecDepth 100000 in
theorem d_WM_sink_7 : decode b_WM_sink 7 = .ok (.aload 4, 2) := by decide +kernel
set_option maxRecDepth 100000 in
theorem d_WM_sink_9 : decode b_WM_sink 9 = .ok (.ifnull 11, 3) := by decide +kernel
set_option maxRecDepth 100000 in
theorem d_WM_sink_20 : decode b_WM_sink 20 = .ok (.iconst (-1), 1) := by decide +kernel
set_option maxRecDepth 100000 in
theorem d_WM_sink_21 : decode b_WM_sink 21 = .ok (.ireturn, 1) := by decide +kernel
set_option maxRecDepth 100000 in
theorem d_WM_stairs_0 : decode b_WM_stairs 0 = .ok (.iload_n 1, 1) := by decide +kernel
set_option maxRecDepth 100000 in
theorem d_WM_stairs_1 : decode b_WM_stairs 1 = .ok (.ifCond .lt 20, 3) := by decide +kernel
set_option maxRecDepth 100000 in
theorem d_WM_stairs_4 : decode b_WM_stairs 4 = .ok (.iload_n 1, 1) := by decide +kernel
set_option maxRecDepth 100000 in
theorem d_WM_stairs_5 : decode b_WM_stairs 5 = .ok (.bipush 60, 2) := by decide +kernel
set_option maxRecDepth 100000 in
theorem d_WM_stairs_7 : decode b_WM_stairs 7 = .ok (.if_icmp .gt 14, 3) := by decide +kernel
set_option maxRecDepth 100000 in
theorem d_WM_stairs_10 : decode b_WM_stairs 10 = .ok (.iload_n 1, 1) := by decide +kernel
set_option maxRecDepth 100000 in
theorem d_WM_stairs_11 : decode b_WM_stairs 11 = .ok (.aload_n 0, 1) := by decide +kernel
set_option maxRecDepth 100000 in
theorem d_WM_stairs_12 : decode b_WM_stairs 12 = .ok (.getfield 12, 3) := by decide +kernel
set_option maxRecDepth 100000 in
theorem d_WM_stairs_15 : decode b_WM_stairs 15 = .ok (.invokevirtual 60, 3) := by decide +kernel
set_option maxRecDepth 100000 in
theorem d_WM_stairs_18 : decode b_WM_stairs 18 = .ok (.if_icmp .gt 5, 3) := by decide +kernel
set_option maxRecDepth 100000 in
theorem d_WM_stairs_21 : decode b_WM_stairs 21 = .ok (.iconst (-1), 1) := by decide +kernel
set_option maxRecDepth 100000 in
theorem d_WM_stairs_22 : decode b_WM_stairs 22 = .ok (.ireturn, 1) := by decide +kernel
set_option maxRecDepth 100000 in
theorem d_WM_stairs_23 : decode b_WM_stairs 23 = .ok (.aload_n 0, 1) := by decide +kernel
set_option maxRecDepth 100000 in
theorem d_WM_stairs_24 : decode b_WM_stairs 24 = .ok (.getfield 12, 3) := by decide +kernel
set_option maxRecDepth 100000 in
theorem d_WM_stairs_27 : decode b_WM_stairs 27 = .ok (.getfield 64, 3) := by decide +kernel
set_option maxRecDepth 100000 in
theorem d_WM_stairs_30 : decode b_WM_stairs 30 = .ok (.bipush 12, 2) := by decide +kernel
set_option maxRecDepth 100000 in
theorem d_WM_stairs_32 : decode b_WM_stairs 32 = .ok (.if_icmp .lt 8, 3) := by decide +kernel
set_option maxRecDepth 100000 in
theorem d_WM_stairs_40 : decode b_WM_stairs 40 = .ok (.aload_n 0, 1) := by decide +kernel
set_option maxRecDepth 100000 in
theorem d_WM_stairs_41 : decode b_WM_stairs 41 = .ok (.getfield 12, 3) := by decide +kernel
set_option maxRecDepth 100000 in
theorem d_WM_stairs_44 : decode b_WM_stairs 44 = .ok (.iload_n 1, 1) := by decide +kernel
set_option maxRecDepth 100000 in
theorem d_WM_stairs_45 : decode b_WM_stairs 45 = .ok (.invokevirtual 68, 3) := by decide +kernel
set_option maxRecDepth 100000 in
theorem d_WM_stairs_48 : decode b_WM_stairs 48 = .ok (.ireturn, 1) := by decide +kernel
set_option maxRecDepth 100000 in
theorem d_WM_table_0 : decode b_WM_table 0 = .ok (.iload_n 1, 1) := by decide +kernel
set_option maxRecDepth 100000 in
theorem d_WM_table_1 : decode b_WM_table 1 = .ok (.invokestatic 79, 3) := by decide +kernel
set_option maxRecDepth 100000 in
theorem d_WM_table_4 : decode b_WM_table 4 = .ok (.ifCond .eq 10, 3) := by decide +kernel
set_option maxRecDepth 100000 in
theorem d_WM_table_7 : decode b_WM_table 7 = .ok (.iload_n 2, 1) := by decide +kernel
set_option maxRecDepth 100000 in
theorem d_WM_table_8 : decode b_WM_table 8 = .ok (.invokestatic 82, 3) := by decide +kernel
set_option maxRecDepth 100000 in
theorem d_WM_table_11 : decode b_WM_table 11 = .ok (.ifCond .ne 7, 3) := by decide +kernel
set_option maxRecDepth 100000 in
theorem d_WM_table_14 : decode b_WM_table 14 = .ok (.sipush (-1000), 3) := by decide +kernel
set_option maxRecDepth 100000 in
theorem d_WM_table_17 : decode b_WM_table 17 = .ok (.ireturn, 1) := by decide +kernel
set_option maxRecDepth 100000 in
theorem d_WM_table_18 : decode b_WM_table 18 = .ok (.aload_n 0, 1) := by decide +kernel
set_option maxRecDepth 100000 in
theorem d_WM_table_19 : decode b_WM_table 19 = .ok (.getfield 12, 3) := by decide +kernel
set_option maxRecDepth 100000 in
theorem d_WM_table_22 : decode b_WM_table 22 = .ok (.getfield 89, 3) := by decide +kernel
set_option maxRecDepth 100000 in
theorem d_WM_table_25 : decode b_WM_table 25 = .ok (.iload_n 1, 1) := by decide +kernel
set_option maxRecDepth 100000 in
theorem d_WM_table_26 : decode b_WM_table 26 = .ok (.iaload, 1) := by decide +kernel
set_option maxRecDepth 100000 in
theorem d_WM_table_27 : decode b_WM_table 27 = .ok (.istore_n 3, 1) := by decide +kernel
set_option maxRecDepth 100000 in
theorem d_WM_table_28 : decode b_WM_table 28 = .ok (.aload_n 0, 1) := by decide +kernel
set_option maxRecDepth 100000 in
theorem d_WM_table_29 : decode b_WM_table 29 = .ok (.getfield 12, 3) := by decide +kernel
set_option maxRecDepth 100000 in
theorem d_WM_table_32 : decode b_WM_table 32 = .ok (.getfield 89, 3) := by decide +kernel
set_option maxRecDepth 100000 in
theorem d_WM_table_35 : decode b_WM_table 35 = .ok (.iload_n 1, 1) := by decide +kernel
set_option maxRecDepth 100000 in
theorem d_WM_table_36 : decode b_WM_table 36 = .ok (.iload_n 2, 1) := by decide +kernel
set_option maxRecDepth 100000 in
theorem d_WM_table_37 : decode b_WM_table 37 = .ok (.iastore, 1) := by decide +kernel
set_option maxRecDepth 100000 in
theorem d_WM_table_38 : decode b_WM_table 38 = .ok (.iload_n 3, 1) := by decide +kernel
set_option maxRecDepth 100000 in
theorem d_WM_table_39 : decode b_WM_table 39 = .ok (.ireturn, 1) := by decide +kernel
set_option maxRecDepth 100000 in
theorem d_WM_today_0 : decode b_WM_today 0 = .ok (.aload_n 0, 1) := by decide +kernel
set_option maxRecDepth 100000 in
theorem d_WM_today_1 : decode b_WM_today 1 = .ok (.getfield 155, 3) := by decide +kernel
set_option maxRecDepth 100000 in
theorem d_WM_today_4 : decode b_WM_today 4 = .ok (.sipush 720, 3) := by decide +kernel
set_option maxRecDepth 100000 in
theorem d_WM_today_7 : decode b_WM_today 7 = .ok (.idiv, 1) := by decide +kernel
set_option maxRecDepth 100000 in
theorem d_WM_today_8 : decode b_WM_today 8 = .ok (.ireturn, 1) := by decide +kernel
set_option maxRecDepth 100000 in
theorem d_WM_trip_0 : decode b_WM_trip 0 = .ok (.aload_n 0, 1) := by decide +kernel
set_option maxRecDepth 100000 in
theorem d_WM_trip_1 : decode b_WM_trip 1 = .ok (.iload_n 1, 1) := by decide +kernel
set_option maxRecDepth 100000 in
theorem d_WM_trip_2 : decode b_WM_trip 2 = .ok (.invokevirtual 293, 3) := by decide +kernel
set_option maxRecDepth 100000 in
theorem d_WM_trip_5 : decode b_WM_trip 5 = .ok (.astore_n 3, 1) := by decide +kernel
set_option maxRecDepth 100000 in
theorem d_WM_trip_6 : decode b_WM_trip 6 = .ok (.aload_n 3, 1) := by decide +kernel
set_option maxRecDepth 100000 in
theorem d_WM_trip_7 : decode b_WM_trip 7 = .ok (.ifnonnull 6, 3) := by decide +kernel
set_option maxRecDepth 100000 in
theorem d_WM_trip_10 : decode b_WM_trip 10 = .ok (.bipush (-2), 2) := by decide +kernel
set_option maxRecDepth 100000 in
theorem d_WM_trip_12 : decode b_WM_trip 12 = .ok (.ireturn, 1) := by decide +kernel
set_option maxRecDepth 100000 in
theorem d_WM_tripAt_0 : decode b_WM_tripAt 0 = .ok (.iload_n 1, 1) := by decide +kernel
set_option maxRecDepth 100000 in
theorem d_WM_tripAt_1 : decode b_WM_tripAt 1 = .ok (.ifCond .lt 20, 3) := by decide +kernel
set_option maxRecDepth 100000 in
theorem d_WM_tripAt_4 : decode b_WM_tripAt 4 = .ok (.iload_n 1, 1) := by decide +kernel
set_option maxRecDepth 100000 in
theorem d_WM_tripAt_5 : decode b_WM_tripAt 5 = .ok (.aload_n 0, 1) := by decide +kernel
set_option maxRecDepth 100000 in
theorem d_WM_tripAt_6 : decode b_WM_tripAt 6 = .ok (.getfield 243, 3) := by decide +kernel
set_option maxRecDepth 100000 in
theorem d_WM_tripAt_9 : decode b_WM_tripAt 9 = .ok (.if_icmp .ge 12, 3) := by decide +kernel
set_option maxRecDepth 100000 in
theorem d_WM_tripAt_21 : decode b_WM_tripAt 21 = .ok (.aconst_null, 1) := by decide +kernel
set_option maxRecDepth 100000 in
theorem d_WM_tripAt_22 : decode b_WM_tripAt 22 = .ok (.areturn, 1) := by decide +kernel
set_option maxRecDepth 100000 in
theorem d_WM_why_0 : decode b_WM_why 0 = .ok (.aload_n 0, 1) := by decide +kernel
set_option maxRecDepth 100000 in
theorem d_WM_why_1 : decode b_WM_why 1 = .ok (.iload_n 1, 1) := by decide +kernel
set_option maxRecDepth 100000 in
theorem d_WM_why_2 : decode b_WM_why 2 = .ok (.invokevirtual 174, 3) := by decide +kernel
set_option maxRecDepth 100000 in
theorem d_WM_why_5 : decode b_WM_why 5 = .ok (.astore 4, 2) := by decide +kernel
set_option maxRecDepth 100000 in
theorem d_WM_why_7 : decode b_WM_why 7 = .ok (.aload_n 0, 1) := by decide +kernel
set_option maxRecDepth 100000 in
theorem d_WM_why_8 : decode b_WM_why 8 = .ok (.iload_n 2, 1) := by decide +kernel
set_option maxRecDepth 100000 in
theorem d_WM_why_9 : decode b_WM_why 9 = .ok (.invokevirtual 107, 3) := by decide +kernel
set_option maxRecDepth 100000 in
theorem d_WM_why_12 : decode b_WM_why 12 = .ok (.astore 5, 2) := by decide +kernel
set_option maxRecDepth 100000 in
theorem d_WM_why_14 : decode b_WM_why 14 = .ok (.aload 4, 2) := by decide +kernel
set_option maxRecDepth 100000 in
theorem d_WM_why_16 : decode b_WM_why 16 = .ok (.ifnull 18, 3) := by decide +kernel
set_option maxRecDepth 100000 in
theorem d_WM_why_34 : decode b_WM_why 34 = .ok (.iconst (-1), 1) := by decide +kernel
set_option maxRecDepth 100000 in
theorem d_WM_why_35 : decode b_WM_why 35 = .ok (.ireturn, 1) := by decide +kernel
