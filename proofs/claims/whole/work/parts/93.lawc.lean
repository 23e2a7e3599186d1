/-! the law's calls, one by one -/
theorem dL_law_148 : decode cL_law 148 = .ok (.aload_n 1, 1) := by decide +kernel
theorem dL_law_149 : decode cL_law 149 = .ok (.aload_n 0, 1) := by decide +kernel
theorem dL_law_150 : decode cL_law 150 = .ok (.iload_n 3, 1) := by decide +kernel
theorem dL_law_151 : decode cL_law 151 = .ok (.iconst 1, 1) := by decide +kernel
theorem dL_law_152 : decode cL_law 152 = .ok (.iadd, 1) := by decide +kernel
theorem dL_law_153 : decode cL_law 153 = .ok (.iaload, 1) := by decide +kernel
theorem dL_law_154 : decode cL_law 154 = .ok (.aload_n 0, 1) := by decide +kernel
theorem dL_law_155 : decode cL_law 155 = .ok (.iload_n 3, 1) := by decide +kernel
theorem dL_law_156 : decode cL_law 156 = .ok (.iconst 2, 1) := by decide +kernel
theorem dL_law_157 : decode cL_law 157 = .ok (.iadd, 1) := by decide +kernel
theorem dL_law_158 : decode cL_law 158 = .ok (.iaload, 1) := by decide +kernel
theorem dL_law_159 : decode cL_law 159 = .ok (.aload_n 0, 1) := by decide +kernel
theorem dL_law_160 : decode cL_law 160 = .ok (.iload_n 3, 1) := by decide +kernel
theorem dL_law_161 : decode cL_law 161 = .ok (.iconst 3, 1) := by decide +kernel
theorem dL_law_162 : decode cL_law 162 = .ok (.iadd, 1) := by decide +kernel
theorem dL_law_163 : decode cL_law 163 = .ok (.iaload, 1) := by decide +kernel
theorem dL_law_164 : decode cL_law 164 = .ok (.invokevirtual 13, 3) := by decide +kernel
theorem dL_law_167 : decode cL_law 167 = .ok (.aload_n 2, 1) := by decide +kernel
theorem dL_law_168 : decode cL_law 168 = .ok (.aload_n 0, 1) := by decide +kernel
theorem dL_law_169 : decode cL_law 169 = .ok (.iload_n 3, 1) := by decide +kernel
theorem dL_law_170 : decode cL_law 170 = .ok (.iconst 1, 1) := by decide +kernel
theorem dL_law_171 : decode cL_law 171 = .ok (.iadd, 1) := by decide +kernel
theorem dL_law_172 : decode cL_law 172 = .ok (.iaload, 1) := by decide +kernel
theorem dL_law_173 : decode cL_law 173 = .ok (.aload_n 0, 1) := by decide +kernel
theorem dL_law_174 : decode cL_law 174 = .ok (.iload_n 3, 1) := by decide +kernel
theorem dL_law_175 : decode cL_law 175 = .ok (.iconst 2, 1) := by decide +kernel
theorem dL_law_176 : decode cL_law 176 = .ok (.iadd, 1) := by decide +kernel
theorem dL_law_177 : decode cL_law 177 = .ok (.iaload, 1) := by decide +kernel
theorem dL_law_178 : decode cL_law 178 = .ok (.aload_n 0, 1) := by decide +kernel
theorem dL_law_179 : decode cL_law 179 = .ok (.iload_n 3, 1) := by decide +kernel
theorem dL_law_180 : decode cL_law 180 = .ok (.iconst 3, 1) := by decide +kernel
theorem dL_law_181 : decode cL_law 181 = .ok (.iadd, 1) := by decide +kernel
theorem dL_law_182 : decode cL_law 182 = .ok (.iaload, 1) := by decide +kernel
theorem dL_law_183 : decode cL_law 183 = .ok (.invokevirtual 17, 3) := by decide +kernel
theorem dL_law_186 : decode cL_law 186 = .ok (.if_icmp .eq 767, 3) := by decide +kernel
theorem dL_law_191 : decode cL_law 191 = .ok (.aload_n 1, 1) := by decide +kernel
theorem dL_law_192 : decode cL_law 192 = .ok (.aload_n 0, 1) := by decide +kernel
theorem dL_law_193 : decode cL_law 193 = .ok (.iload_n 3, 1) := by decide +kernel
theorem dL_law_194 : decode cL_law 194 = .ok (.iconst 1, 1) := by decide +kernel
theorem dL_law_195 : decode cL_law 195 = .ok (.iadd, 1) := by decide +kernel
theorem dL_law_196 : decode cL_law 196 = .ok (.iaload, 1) := by decide +kernel
theorem dL_law_197 : decode cL_law 197 = .ok (.aload_n 0, 1) := by decide +kernel
theorem dL_law_198 : decode cL_law 198 = .ok (.iload_n 3, 1) := by decide +kernel
theorem dL_law_199 : decode cL_law 199 = .ok (.iconst 2, 1) := by decide +kernel
theorem dL_law_200 : decode cL_law 200 = .ok (.iadd, 1) := by decide +kernel
theorem dL_law_201 : decode cL_law 201 = .ok (.iaload, 1) := by decide +kernel
theorem dL_law_202 : decode cL_law 202 = .ok (.aload_n 0, 1) := by decide +kernel
theorem dL_law_203 : decode cL_law 203 = .ok (.iload_n 3, 1) := by decide +kernel
theorem dL_law_204 : decode cL_law 204 = .ok (.iconst 3, 1) := by decide +kernel
theorem dL_law_205 : decode cL_law 205 = .ok (.iadd, 1) := by decide +kernel
theorem dL_law_206 : decode cL_law 206 = .ok (.iaload, 1) := by decide +kernel
theorem dL_law_207 : decode cL_law 207 = .ok (.invokevirtual 18, 3) := by decide +kernel
theorem dL_law_210 : decode cL_law 210 = .ok (.aload_n 2, 1) := by decide +kernel
theorem dL_law_211 : decode cL_law 211 = .ok (.aload_n 0, 1) := by decide +kernel
theorem dL_law_212 : decode cL_law 212 = .ok (.iload_n 3, 1) := by decide +kernel
theorem dL_law_213 : decode cL_law 213 = .ok (.iconst 1, 1) := by decide +kernel
theorem dL_law_214 : decode cL_law 214 = .ok (.iadd, 1) := by decide +kernel
theorem dL_law_215 : decode cL_law 215 = .ok (.iaload, 1) := by decide +kernel
theorem dL_law_216 : decode cL_law 216 = .ok (.aload_n 0, 1) := by decide +kernel
theorem dL_law_217 : decode cL_law 217 = .ok (.iload_n 3, 1) := by decide +kernel
theorem dL_law_218 : decode cL_law 218 = .ok (.iconst 2, 1) := by decide +kernel
theorem dL_law_219 : decode cL_law 219 = .ok (.iadd, 1) := by decide +kernel
theorem dL_law_220 : decode cL_law 220 = .ok (.iaload, 1) := by decide +kernel
theorem dL_law_221 : decode cL_law 221 = .ok (.aload_n 0, 1) := by decide +kernel
theorem dL_law_222 : decode cL_law 222 = .ok (.iload_n 3, 1) := by decide +kernel
theorem dL_law_223 : decode cL_law 223 = .ok (.iconst 3, 1) := by decide +kernel
theorem dL_law_224 : decode cL_law 224 = .ok (.iadd, 1) := by decide +kernel
theorem dL_law_225 : decode cL_law 225 = .ok (.iaload, 1) := by decide +kernel
theorem dL_law_226 : decode cL_law 226 = .ok (.invokevirtual 21, 3) := by decide +kernel
theorem dL_law_229 : decode cL_law 229 = .ok (.if_icmp .eq 724, 3) := by decide +kernel
theorem dL_law_234 : decode cL_law 234 = .ok (.aload_n 1, 1) := by decide +kernel
theorem dL_law_235 : decode cL_law 235 = .ok (.aload_n 0, 1) := by decide +kernel
theorem dL_law_236 : decode cL_law 236 = .ok (.iload_n 3, 1) := by decide +kernel
theorem dL_law_237 : decode cL_law 237 = .ok (.iconst 1, 1) := by decide +kernel
theorem dL_law_238 : decode cL_law 238 = .ok (.iadd, 1) := by decide +kernel
theorem dL_law_239 : decode cL_law 239 = .ok (.iaload, 1) := by decide +kernel
theorem dL_law_240 : decode cL_law 240 = .ok (.aload_n 0, 1) := by decide +kernel
theorem dL_law_241 : decode cL_law 241 = .ok (.iload_n 3, 1) := by decide +kernel
theorem dL_law_242 : decode cL_law 242 = .ok (.iconst 2, 1) := by decide +kernel
theorem dL_law_243 : decode cL_law 243 = .ok (.iadd, 1) := by decide +kernel
theorem dL_law_244 : decode cL_law 244 = .ok (.iaload, 1) := by decide +kernel
theorem dL_law_245 : decode cL_law 245 = .ok (.aload_n 0, 1) := by decide +kernel
theorem dL_law_246 : decode cL_law 246 = .ok (.iload_n 3, 1) := by decide +kernel
theorem dL_law_247 : decode cL_law 247 = .ok (.iconst 3, 1) := by decide +kernel
theorem dL_law_248 : decode cL_law 248 = .ok (.iadd, 1) := by decide +kernel
theorem dL_law_249 : decode cL_law 249 = .ok (.iaload, 1) := by decide +kernel
theorem dL_law_250 : decode cL_law 250 = .ok (.aload_n 0, 1) := by decide +kernel
theorem dL_law_251 : decode cL_law 251 = .ok (.iload_n 3, 1) := by decide +kernel
theorem dL_law_252 : decode cL_law 252 = .ok (.iconst 4, 1) := by decide +kernel
theorem dL_law_253 : decode cL_law 253 = .ok (.iadd, 1) := by decide +kernel
theorem dL_law_254 : decode cL_law 254 = .ok (.iaload, 1) := by decide +kernel
theorem dL_law_255 : decode cL_law 255 = .ok (.aload_n 0, 1) := by decide +kernel
theorem dL_law_256 : decode cL_law 256 = .ok (.iload_n 3, 1) := by decide +kernel
theorem dL_law_257 : decode cL_law 257 = .ok (.iconst 5, 1) := by decide +kernel
theorem dL_law_258 : decode cL_law 258 = .ok (.iadd, 1) := by decide +kernel
theorem dL_law_259 : decode cL_law 259 = .ok (.iaload, 1) := by decide +kernel
theorem dL_law_260 : decode cL_law 260 = .ok (.invokevirtual 22, 3) := by decide +kernel
theorem dL_law_263 : decode cL_law 263 = .ok (.aload_n 2, 1) := by decide +kernel
theorem dL_law_264 : decode cL_law 264 = .ok (.aload_n 0, 1) := by decide +kernel
theorem dL_law_265 : decode cL_law 265 = .ok (.iload_n 3, 1) := by decide +kernel
theorem dL_law_266 : decode cL_law 266 = .ok (.iconst 1, 1) := by decide +kernel
theorem dL_law_267 : decode cL_law 267 = .ok (.iadd, 1) := by decide +kernel
theorem dL_law_268 : decode cL_law 268 = .ok (.iaload, 1) := by decide +kernel
theorem dL_law_269 : decode cL_law 269 = .ok (.aload_n 0, 1) := by decide +kernel
theorem dL_law_270 : decode cL_law 270 = .ok (.iload_n 3, 1) := by decide +kernel
theorem dL_law_271 : decode cL_law 271 = .ok (.iconst 2, 1) := by decide +kernel
theorem dL_law_272 : decode cL_law 272 = .ok (.iadd, 1) := by decide +kernel
theorem dL_law_273 : decode cL_law 273 = .ok (.iaload, 1) := by decide +kernel
theorem dL_law_274 : decode cL_law 274 = .ok (.aload_n 0, 1) := by decide +kernel
theorem dL_law_275 : decode cL_law 275 = .ok (.iload_n 3, 1) := by decide +kernel
theorem dL_law_276 : decode cL_law 276 = .ok (.iconst 3, 1) := by decide +kernel
theorem dL_law_277 : decode cL_law 277 = .ok (.iadd, 1) := by decide +kernel
theorem dL_law_278 : decode cL_law 278 = .ok (.iaload, 1) := by decide +kernel
theorem dL_law_279 : decode cL_law 279 = .ok (.aload_n 0, 1) := by decide +kernel
theorem dL_law_280 : decode cL_law 280 = .ok (.iload_n 3, 1) := by decide +kernel
theorem dL_law_281 : decode cL_law 281 = .ok (.iconst 4, 1) := by decide +kernel
theorem dL_law_282 : decode cL_law 282 = .ok (.iadd, 1) := by decide +kernel
theorem dL_law_283 : decode cL_law 283 = .ok (.iaload, 1) := by decide +kernel
theorem dL_law_284 : decode cL_law 284 = .ok (.aload_n 0, 1) := by decide +kernel
theorem dL_law_285 : decode cL_law 285 = .ok (.iload_n 3, 1) := by decide +kernel
theorem dL_law_286 : decode cL_law 286 = .ok (.iconst 5, 1) := by decide +kernel
theorem dL_law_287 : decode cL_law 287 = .ok (.iadd, 1) := by decide +kernel
theorem dL_law_288 : decode cL_law 288 = .ok (.iaload, 1) := by decide +kernel
theorem dL_law_289 : decode cL_law 289 = .ok (.invokevirtual 26, 3) := by decide +kernel
theorem dL_law_292 : decode cL_law 292 = .ok (.if_icmp .eq 661, 3) := by decide +kernel
theorem dL_law_297 : decode cL_law 297 = .ok (.aload_n 1, 1) := by decide +kernel
theorem dL_law_298 : decode cL_law 298 = .ok (.aload_n 0, 1) := by decide +kernel
theorem dL_law_299 : decode cL_law 299 = .ok (.iload_n 3, 1) := by decide +kernel
theorem dL_law_300 : decode cL_law 300 = .ok (.iconst 1, 1) := by decide +kernel
theorem dL_law_301 : decode cL_law 301 = .ok (.iadd, 1) := by decide +kernel
theorem dL_law_302 : decode cL_law 302 = .ok (.iaload, 1) := by decide +kernel
theorem dL_law_303 : decode cL_law 303 = .ok (.invokevirtual 27, 3) := by decide +kernel
theorem dL_law_306 : decode cL_law 306 = .ok (.aload_n 2, 1) := by decide +kernel
theorem dL_law_307 : decode cL_law 307 = .ok (.aload_n 0, 1) := by decide +kernel
theorem dL_law_308 : decode cL_law 308 = .ok (.iload_n 3, 1) := by decide +kernel
theorem dL_law_309 : decode cL_law 309 = .ok (.iconst 1, 1) := by decide +kernel
theorem dL_law_310 : decode cL_law 310 = .ok (.iadd, 1) := by decide +kernel
theorem dL_law_311 : decode cL_law 311 = .ok (.iaload, 1) := by decide +kernel
theorem dL_law_312 : decode cL_law 312 = .ok (.invokevirtual 31, 3) := by decide +kernel
theorem dL_law_315 : decode cL_law 315 = .ok (.if_icmp .eq 638, 3) := by decide +kernel
theorem dL_law_320 : decode cL_law 320 = .ok (.aload_n 1, 1) := by decide +kernel
theorem dL_law_321 : decode cL_law 321 = .ok (.aload_n 0, 1) := by decide +kernel
theorem dL_law_322 : decode cL_law 322 = .ok (.iload_n 3, 1) := by decide +kernel
theorem dL_law_323 : decode cL_law 323 = .ok (.iconst 1, 1) := by decide +kernel
theorem dL_law_324 : decode cL_law 324 = .ok (.iadd, 1) := by decide +kernel
theorem dL_law_325 : decode cL_law 325 = .ok (.iaload, 1) := by decide +kernel
theorem dL_law_326 : decode cL_law 326 = .ok (.i2l, 1) := by decide +kernel
theorem dL_law_327 : decode cL_law 327 = .ok (.bipush 32, 2) := by decide +kernel
theorem dL_law_329 : decode cL_law 329 = .ok (.lshl, 1) := by decide +kernel
theorem dL_law_330 : decode cL_law 330 = .ok (.aload_n 0, 1) := by decide +kernel
theorem dL_law_331 : decode cL_law 331 = .ok (.iload_n 3, 1) := by decide +kernel
theorem dL_law_332 : decode cL_law 332 = .ok (.iconst 2, 1) := by decide +kernel
theorem dL_law_333 : decode cL_law 333 = .ok (.iadd, 1) := by decide +kernel
theorem dL_law_334 : decode cL_law 334 = .ok (.iaload, 1) := by decide +kernel
theorem dL_law_335 : decode cL_law 335 = .ok (.i2l, 1) := by decide +kernel
theorem dL_law_336 : decode cL_law 336 = .ok (.ldc2_w 32, 3) := by decide +kernel
theorem dL_law_339 : decode cL_law 339 = .ok (.land, 1) := by decide +kernel
theorem dL_law_340 : decode cL_law 340 = .ok (.lor, 1) := by decide +kernel
theorem dL_law_341 : decode cL_law 341 = .ok (.aload_n 0, 1) := by decide +kernel
theorem dL_law_342 : decode cL_law 342 = .ok (.iload_n 3, 1) := by decide +kernel
theorem dL_law_343 : decode cL_law 343 = .ok (.iconst 3, 1) := by decide +kernel
theorem dL_law_344 : decode cL_law 344 = .ok (.iadd, 1) := by decide +kernel
theorem dL_law_345 : decode cL_law 345 = .ok (.iaload, 1) := by decide +kernel
theorem dL_law_346 : decode cL_law 346 = .ok (.invokevirtual 34, 3) := by decide +kernel
theorem dL_law_349 : decode cL_law 349 = .ok (.aload_n 2, 1) := by decide +kernel
theorem dL_law_350 : decode cL_law 350 = .ok (.aload_n 0, 1) := by decide +kernel
theorem dL_law_351 : decode cL_law 351 = .ok (.iload_n 3, 1) := by decide +kernel
theorem dL_law_352 : decode cL_law 352 = .ok (.iconst 1, 1) := by decide +kernel
theorem dL_law_353 : decode cL_law 353 = .ok (.iadd, 1) := by decide +kernel
theorem dL_law_354 : decode cL_law 354 = .ok (.iaload, 1) := by decide +kernel
theorem dL_law_355 : decode cL_law 355 = .ok (.i2l, 1) := by decide +kernel
theorem dL_law_356 : decode cL_law 356 = .ok (.bipush 32, 2) := by decide +kernel
theorem dL_law_358 : decode cL_law 358 = .ok (.lshl, 1) := by decide +kernel
theorem dL_law_359 : decode cL_law 359 = .ok (.aload_n 0, 1) := by decide +kernel
theorem dL_law_360 : decode cL_law 360 = .ok (.iload_n 3, 1) := by decide +kernel
theorem dL_law_361 : decode cL_law 361 = .ok (.iconst 2, 1) := by decide +kernel
theorem dL_law_362 : decode cL_law 362 = .ok (.iadd, 1) := by decide +kernel
theorem dL_law_363 : decode cL_law 363 = .ok (.iaload, 1) := by decide +kernel
theorem dL_law_364 : decode cL_law 364 = .ok (.i2l, 1) := by decide +kernel
theorem dL_law_365 : decode cL_law 365 = .ok (.ldc2_w 32, 3) := by decide +kernel
theorem dL_law_368 : decode cL_law 368 = .ok (.land, 1) := by decide +kernel
theorem dL_law_369 : decode cL_law 369 = .ok (.lor, 1) := by decide +kernel
theorem dL_law_370 : decode cL_law 370 = .ok (.aload_n 0, 1) := by decide +kernel
theorem dL_law_371 : decode cL_law 371 = .ok (.iload_n 3, 1) := by decide +kernel
theorem dL_law_372 : decode cL_law 372 = .ok (.iconst 3, 1) := by decide +kernel
theorem dL_law_373 : decode cL_law 373 = .ok (.iadd, 1) := by decide +kernel
theorem dL_law_374 : decode cL_law 374 = .ok (.iaload, 1) := by decide +kernel
theorem dL_law_375 : decode cL_law 375 = .ok (.invokevirtual 38, 3) := by decide +kernel
theorem dL_law_378 : decode cL_law 378 = .ok (.if_icmp .eq 575, 3) := by decide +kernel
theorem dL_law_383 : decode cL_law 383 = .ok (.aload_n 1, 1) := by decide +kernel
theorem dL_law_384 : decode cL_law 384 = .ok (.invokevirtual 39, 3) := by decide +kernel
theorem dL_law_387 : decode cL_law 387 = .ok (.aload_n 2, 1) := by decide +kernel
theorem dL_law_388 : decode cL_law 388 = .ok (.invokevirtual 43, 3) := by decide +kernel
theorem dL_law_391 : decode cL_law 391 = .ok (.if_icmp .eq 562, 3) := by decide +kernel
theorem dL_law_396 : decode cL_law 396 = .ok (.aload_n 1, 1) := by decide +kernel
theorem dL_law_397 : decode cL_law 397 = .ok (.invokevirtual 44, 3) := by decide +kernel
theorem dL_law_400 : decode cL_law 400 = .ok (.aload_n 2, 1) := by decide +kernel
theorem dL_law_401 : decode cL_law 401 = .ok (.invokevirtual 47, 3) := by decide +kernel
theorem dL_law_404 : decode cL_law 404 = .ok (.if_icmp .eq 549, 3) := by decide +kernel
theorem dL_law_409 : decode cL_law 409 = .ok (.aload_n 1, 1) := by decide +kernel
theorem dL_law_410 : decode cL_law 410 = .ok (.aload_n 0, 1) := by decide +kernel
theorem dL_law_411 : decode cL_law 411 = .ok (.iload_n 3, 1) := by decide +kernel
theorem dL_law_412 : decode cL_law 412 = .ok (.iconst 1, 1) := by decide +kernel
theorem dL_law_413 : decode cL_law 413 = .ok (.iadd, 1) := by decide +kernel
theorem dL_law_414 : decode cL_law 414 = .ok (.iaload, 1) := by decide +kernel
theorem dL_law_415 : decode cL_law 415 = .ok (.aload_n 0, 1) := by decide +kernel
theorem dL_law_416 : decode cL_law 416 = .ok (.iload_n 3, 1) := by decide +kernel
theorem dL_law_417 : decode cL_law 417 = .ok (.iconst 2, 1) := by decide +kernel
theorem dL_law_418 : decode cL_law 418 = .ok (.iadd, 1) := by decide +kernel
theorem dL_law_419 : decode cL_law 419 = .ok (.iaload, 1) := by decide +kernel
theorem dL_law_420 : decode cL_law 420 = .ok (.invokevirtual 48, 3) := by decide +kernel
theorem dL_law_423 : decode cL_law 423 = .ok (.aload_n 2, 1) := by decide +kernel
theorem dL_law_424 : decode cL_law 424 = .ok (.aload_n 0, 1) := by decide +kernel
theorem dL_law_425 : decode cL_law 425 = .ok (.iload_n 3, 1) := by decide +kernel
theorem dL_law_426 : decode cL_law 426 = .ok (.iconst 1, 1) := by decide +kernel
theorem dL_law_427 : decode cL_law 427 = .ok (.iadd, 1) := by decide +kernel
theorem dL_law_428 : decode cL_law 428 = .ok (.iaload, 1) := by decide +kernel
theorem dL_law_429 : decode cL_law 429 = .ok (.aload_n 0, 1) := by decide +kernel
theorem dL_law_430 : decode cL_law 430 = .ok (.iload_n 3, 1) := by decide +kernel
theorem dL_law_431 : decode cL_law 431 = .ok (.iconst 2, 1) := by decide +kernel
theorem dL_law_432 : decode cL_law 432 = .ok (.iadd, 1) := by decide +kernel
theorem dL_law_433 : decode cL_law 433 = .ok (.iaload, 1) := by decide +kernel
theorem dL_law_434 : decode cL_law 434 = .ok (.invokevirtual 52, 3) := by decide +kernel
theorem dL_law_437 : decode cL_law 437 = .ok (.if_icmp .eq 516, 3) := by decide +kernel
theorem dL_law_442 : decode cL_law 442 = .ok (.aload_n 1, 1) := by decide +kernel
theorem dL_law_443 : decode cL_law 443 = .ok (.invokevirtual 53, 3) := by decide +kernel
theorem dL_law_446 : decode cL_law 446 = .ok (.aload_n 2, 1) := by decide +kernel
theorem dL_law_447 : decode cL_law 447 = .ok (.invokevirtual 56, 3) := by decide +kernel
theorem dL_law_450 : decode cL_law 450 = .ok (.if_icmp .eq 503, 3) := by decide +kernel
theorem dL_law_455 : decode cL_law 455 = .ok (.aload_n 1, 1) := by decide +kernel
theorem dL_law_456 : decode cL_law 456 = .ok (.aload_n 0, 1) := by decide +kernel
theorem dL_law_457 : decode cL_law 457 = .ok (.iload_n 3, 1) := by decide +kernel
theorem dL_law_458 : decode cL_law 458 = .ok (.iconst 1, 1) := by decide +kernel
theorem dL_law_459 : decode cL_law 459 = .ok (.iadd, 1) := by decide +kernel
theorem dL_law_460 : decode cL_law 460 = .ok (.iaload, 1) := by decide +kernel
theorem dL_law_461 : decode cL_law 461 = .ok (.aload_n 0, 1) := by decide +kernel
theorem dL_law_462 : decode cL_law 462 = .ok (.iload_n 3, 1) := by decide +kernel
theorem dL_law_463 : decode cL_law 463 = .ok (.iconst 2, 1) := by decide +kernel
theorem dL_law_464 : decode cL_law 464 = .ok (.iadd, 1) := by decide +kernel
theorem dL_law_465 : decode cL_law 465 = .ok (.iaload, 1) := by decide +kernel
theorem dL_law_466 : decode cL_law 466 = .ok (.invokevirtual 57, 3) := by decide +kernel
theorem dL_law_469 : decode cL_law 469 = .ok (.aload_n 2, 1) := by decide +kernel
theorem dL_law_470 : decode cL_law 470 = .ok (.aload_n 0, 1) := by decide +kernel
theorem dL_law_471 : decode cL_law 471 = .ok (.iload_n 3, 1) := by decide +kernel
theorem dL_law_472 : decode cL_law 472 = .ok (.iconst 1, 1) := by decide +kernel
theorem dL_law_473 : decode cL_law 473 = .ok (.iadd, 1) := by decide +kernel
theorem dL_law_474 : decode cL_law 474 = .ok (.iaload, 1) := by decide +kernel
theorem dL_law_475 : decode cL_law 475 = .ok (.aload_n 0, 1) := by decide +kernel
theorem dL_law_476 : decode cL_law 476 = .ok (.iload_n 3, 1) := by decide +kernel
theorem dL_law_477 : decode cL_law 477 = .ok (.iconst 2, 1) := by decide +kernel
theorem dL_law_478 : decode cL_law 478 = .ok (.iadd, 1) := by decide +kernel
theorem dL_law_479 : decode cL_law 479 = .ok (.iaload, 1) := by decide +kernel
theorem dL_law_480 : decode cL_law 480 = .ok (.invokevirtual 60, 3) := by decide +kernel
theorem dL_law_483 : decode cL_law 483 = .ok (.if_icmp .eq 470, 3) := by decide +kernel
theorem dL_law_488 : decode cL_law 488 = .ok (.aload_n 1, 1) := by decide +kernel
theorem dL_law_489 : decode cL_law 489 = .ok (.aload_n 0, 1) := by decide +kernel
theorem dL_law_490 : decode cL_law 490 = .ok (.iload_n 3, 1) := by decide +kernel
theorem dL_law_491 : decode cL_law 491 = .ok (.iconst 1, 1) := by decide +kernel
theorem dL_law_492 : decode cL_law 492 = .ok (.iadd, 1) := by decide +kernel
theorem dL_law_493 : decode cL_law 493 = .ok (.iaload, 1) := by decide +kernel
theorem dL_law_494 : decode cL_law 494 = .ok (.aload_n 0, 1) := by decide +kernel
theorem dL_law_495 : decode cL_law 495 = .ok (.iload_n 3, 1) := by decide +kernel
theorem dL_law_496 : decode cL_law 496 = .ok (.iconst 2, 1) := by decide +kernel
theorem dL_law_497 : decode cL_law 497 = .ok (.iadd, 1) := by decide +kernel
theorem dL_law_498 : decode cL_law 498 = .ok (.iaload, 1) := by decide +kernel
theorem dL_law_499 : decode cL_law 499 = .ok (.invokevirtual 61, 3) := by decide +kernel
theorem dL_law_502 : decode cL_law 502 = .ok (.aload_n 2, 1) := by decide +kernel
theorem dL_law_503 : decode cL_law 503 = .ok (.aload_n 0, 1) := by decide +kernel
theorem dL_law_504 : decode cL_law 504 = .ok (.iload_n 3, 1) := by decide +kernel
theorem dL_law_505 : decode cL_law 505 = .ok (.iconst 1, 1) := by decide +kernel
theorem dL_law_506 : decode cL_law 506 = .ok (.iadd, 1) := by decide +kernel
theorem dL_law_507 : decode cL_law 507 = .ok (.iaload, 1) := by decide +kernel
theorem dL_law_508 : decode cL_law 508 = .ok (.aload_n 0, 1) := by decide +kernel
theorem dL_law_509 : decode cL_law 509 = .ok (.iload_n 3, 1) := by decide +kernel
theorem dL_law_510 : decode cL_law 510 = .ok (.iconst 2, 1) := by decide +kernel
theorem dL_law_511 : decode cL_law 511 = .ok (.iadd, 1) := by decide +kernel
theorem dL_law_512 : decode cL_law 512 = .ok (.iaload, 1) := by decide +kernel
theorem dL_law_513 : decode cL_law 513 = .ok (.invokevirtual 64, 3) := by decide +kernel
theorem dL_law_516 : decode cL_law 516 = .ok (.if_icmp .eq 437, 3) := by decide +kernel
theorem dL_law_521 : decode cL_law 521 = .ok (.aload_n 1, 1) := by decide +kernel
theorem dL_law_522 : decode cL_law 522 = .ok (.aload_n 0, 1) := by decide +kernel
theorem dL_law_523 : decode cL_law 523 = .ok (.iload_n 3, 1) := by decide +kernel
theorem dL_law_524 : decode cL_law 524 = .ok (.iconst 1, 1) := by decide +kernel
theorem dL_law_525 : decode cL_law 525 = .ok (.iadd, 1) := by decide +kernel
theorem dL_law_526 : decode cL_law 526 = .ok (.iaload, 1) := by decide +kernel
theorem dL_law_527 : decode cL_law 527 = .ok (.aload_n 0, 1) := by decide +kernel
theorem dL_law_528 : decode cL_law 528 = .ok (.iload_n 3, 1) := by decide +kernel
theorem dL_law_529 : decode cL_law 529 = .ok (.iconst 2, 1) := by decide +kernel
theorem dL_law_530 : decode cL_law 530 = .ok (.iadd, 1) := by decide +kernel
theorem dL_law_531 : decode cL_law 531 = .ok (.iaload, 1) := by decide +kernel
theorem dL_law_532 : decode cL_law 532 = .ok (.invokevirtual 65, 3) := by decide +kernel
theorem dL_law_535 : decode cL_law 535 = .ok (.aload_n 2, 1) := by decide +kernel
theorem dL_law_536 : decode cL_law 536 = .ok (.aload_n 0, 1) := by decide +kernel
theorem dL_law_537 : decode cL_law 537 = .ok (.iload_n 3, 1) := by decide +kernel
theorem dL_law_538 : decode cL_law 538 = .ok (.iconst 1, 1) := by decide +kernel
theorem dL_law_539 : decode cL_law 539 = .ok (.iadd, 1) := by decide +kernel
theorem dL_law_540 : decode cL_law 540 = .ok (.iaload, 1) := by decide +kernel
theorem dL_law_541 : decode cL_law 541 = .ok (.aload_n 0, 1) := by decide +kernel
theorem dL_law_542 : decode cL_law 542 = .ok (.iload_n 3, 1) := by decide +kernel
theorem dL_law_543 : decode cL_law 543 = .ok (.iconst 2, 1) := by decide +kernel
theorem dL_law_544 : decode cL_law 544 = .ok (.iadd, 1) := by decide +kernel
theorem dL_law_545 : decode cL_law 545 = .ok (.iaload, 1) := by decide +kernel
theorem dL_law_546 : decode cL_law 546 = .ok (.invokevirtual 68, 3) := by decide +kernel
theorem dL_law_549 : decode cL_law 549 = .ok (.if_icmp .eq 404, 3) := by decide +kernel
theorem dL_law_554 : decode cL_law 554 = .ok (.aload_n 1, 1) := by decide +kernel
theorem dL_law_555 : decode cL_law 555 = .ok (.aload_n 0, 1) := by decide +kernel
theorem dL_law_556 : decode cL_law 556 = .ok (.iload_n 3, 1) := by decide +kernel
theorem dL_law_557 : decode cL_law 557 = .ok (.iconst 1, 1) := by decide +kernel
theorem dL_law_558 : decode cL_law 558 = .ok (.iadd, 1) := by decide +kernel
theorem dL_law_559 : decode cL_law 559 = .ok (.iaload, 1) := by decide +kernel
theorem dL_law_560 : decode cL_law 560 = .ok (.aload_n 0, 1) := by decide +kernel
theorem dL_law_561 : decode cL_law 561 = .ok (.iload_n 3, 1) := by decide +kernel
theorem dL_law_562 : decode cL_law 562 = .ok (.iconst 2, 1) := by decide +kernel
theorem dL_law_563 : decode cL_law 563 = .ok (.iadd, 1) := by decide +kernel
theorem dL_law_564 : decode cL_law 564 = .ok (.iaload, 1) := by decide +kernel
theorem dL_law_565 : decode cL_law 565 = .ok (.invokevirtual 69, 3) := by decide +kernel
theorem dL_law_568 : decode cL_law 568 = .ok (.aload_n 2, 1) := by decide +kernel
theorem dL_law_569 : decode cL_law 569 = .ok (.aload_n 0, 1) := by decide +kernel
theorem dL_law_570 : decode cL_law 570 = .ok (.iload_n 3, 1) := by decide +kernel
theorem dL_law_571 : decode cL_law 571 = .ok (.iconst 1, 1) := by decide +kernel
theorem dL_law_572 : decode cL_law 572 = .ok (.iadd, 1) := by decide +kernel
theorem dL_law_573 : decode cL_law 573 = .ok (.iaload, 1) := by decide +kernel
theorem dL_law_574 : decode cL_law 574 = .ok (.aload_n 0, 1) := by decide +kernel
theorem dL_law_575 : decode cL_law 575 = .ok (.iload_n 3, 1) := by decide +kernel
theorem dL_law_576 : decode cL_law 576 = .ok (.iconst 2, 1) := by decide +kernel
theorem dL_law_577 : decode cL_law 577 = .ok (.iadd, 1) := by decide +kernel
theorem dL_law_578 : decode cL_law 578 = .ok (.iaload, 1) := by decide +kernel
theorem dL_law_579 : decode cL_law 579 = .ok (.invokevirtual 72, 3) := by decide +kernel
theorem dL_law_582 : decode cL_law 582 = .ok (.if_icmp .eq 371, 3) := by decide +kernel
theorem dL_law_587 : decode cL_law 587 = .ok (.aload_n 1, 1) := by decide +kernel
theorem dL_law_588 : decode cL_law 588 = .ok (.aload_n 0, 1) := by decide +kernel
theorem dL_law_589 : decode cL_law 589 = .ok (.iload_n 3, 1) := by decide +kernel
theorem dL_law_590 : decode cL_law 590 = .ok (.iconst 1, 1) := by decide +kernel
theorem dL_law_591 : decode cL_law 591 = .ok (.iadd, 1) := by decide +kernel
theorem dL_law_592 : decode cL_law 592 = .ok (.iaload, 1) := by decide +kernel
theorem dL_law_593 : decode cL_law 593 = .ok (.aload_n 0, 1) := by decide +kernel
theorem dL_law_594 : decode cL_law 594 = .ok (.iload_n 3, 1) := by decide +kernel
theorem dL_law_595 : decode cL_law 595 = .ok (.iconst 2, 1) := by decide +kernel
theorem dL_law_596 : decode cL_law 596 = .ok (.iadd, 1) := by decide +kernel
theorem dL_law_597 : decode cL_law 597 = .ok (.iaload, 1) := by decide +kernel
theorem dL_law_598 : decode cL_law 598 = .ok (.aload_n 0, 1) := by decide +kernel
theorem dL_law_599 : decode cL_law 599 = .ok (.iload_n 3, 1) := by decide +kernel
theorem dL_law_600 : decode cL_law 600 = .ok (.iconst 3, 1) := by decide +kernel
theorem dL_law_601 : decode cL_law 601 = .ok (.iadd, 1) := by decide +kernel
theorem dL_law_602 : decode cL_law 602 = .ok (.iaload, 1) := by decide +kernel
theorem dL_law_603 : decode cL_law 603 = .ok (.invokevirtual 73, 3) := by decide +kernel
theorem dL_law_606 : decode cL_law 606 = .ok (.aload_n 2, 1) := by decide +kernel
theorem dL_law_607 : decode cL_law 607 = .ok (.aload_n 0, 1) := by decide +kernel
theorem dL_law_608 : decode cL_law 608 = .ok (.iload_n 3, 1) := by decide +kernel
theorem dL_law_609 : decode cL_law 609 = .ok (.iconst 1, 1) := by decide +kernel
theorem dL_law_610 : decode cL_law 610 = .ok (.iadd, 1) := by decide +kernel
theorem dL_law_611 : decode cL_law 611 = .ok (.iaload, 1) := by decide +kernel
theorem dL_law_612 : decode cL_law 612 = .ok (.aload_n 0, 1) := by decide +kernel
theorem dL_law_613 : decode cL_law 613 = .ok (.iload_n 3, 1) := by decide +kernel
theorem dL_law_614 : decode cL_law 614 = .ok (.iconst 2, 1) := by decide +kernel
theorem dL_law_615 : decode cL_law 615 = .ok (.iadd, 1) := by decide +kernel
theorem dL_law_616 : decode cL_law 616 = .ok (.iaload, 1) := by decide +kernel
theorem dL_law_617 : decode cL_law 617 = .ok (.aload_n 0, 1) := by decide +kernel
theorem dL_law_618 : decode cL_law 618 = .ok (.iload_n 3, 1) := by decide +kernel
theorem dL_law_619 : decode cL_law 619 = .ok (.iconst 3, 1) := by decide +kernel
theorem dL_law_620 : decode cL_law 620 = .ok (.iadd, 1) := by decide +kernel
theorem dL_law_621 : decode cL_law 621 = .ok (.iaload, 1) := by decide +kernel
theorem dL_law_622 : decode cL_law 622 = .ok (.invokevirtual 76, 3) := by decide +kernel
theorem dL_law_625 : decode cL_law 625 = .ok (.if_icmp .eq 328, 3) := by decide +kernel
theorem dL_law_630 : decode cL_law 630 = .ok (.aload_n 1, 1) := by decide +kernel
theorem dL_law_631 : decode cL_law 631 = .ok (.aload_n 0, 1) := by decide +kernel
theorem dL_law_632 : decode cL_law 632 = .ok (.iload_n 3, 1) := by decide +kernel
theorem dL_law_633 : decode cL_law 633 = .ok (.iconst 1, 1) := by decide +kernel
theorem dL_law_634 : decode cL_law 634 = .ok (.iadd, 1) := by decide +kernel
theorem dL_law_635 : decode cL_law 635 = .ok (.iaload, 1) := by decide +kernel
theorem dL_law_636 : decode cL_law 636 = .ok (.aload_n 0, 1) := by decide +kernel
theorem dL_law_637 : decode cL_law 637 = .ok (.iload_n 3, 1) := by decide +kernel
theorem dL_law_638 : decode cL_law 638 = .ok (.iconst 2, 1) := by decide +kernel
theorem dL_law_639 : decode cL_law 639 = .ok (.iadd, 1) := by decide +kernel
theorem dL_law_640 : decode cL_law 640 = .ok (.iaload, 1) := by decide +kernel
theorem dL_law_641 : decode cL_law 641 = .ok (.aload_n 0, 1) := by decide +kernel
theorem dL_law_642 : decode cL_law 642 = .ok (.iload_n 3, 1) := by decide +kernel
theorem dL_law_643 : decode cL_law 643 = .ok (.iconst 3, 1) := by decide +kernel
theorem dL_law_644 : decode cL_law 644 = .ok (.iadd, 1) := by decide +kernel
theorem dL_law_645 : decode cL_law 645 = .ok (.iaload, 1) := by decide +kernel
theorem dL_law_646 : decode cL_law 646 = .ok (.invokevirtual 77, 3) := by decide +kernel
theorem dL_law_649 : decode cL_law 649 = .ok (.aload_n 2, 1) := by decide +kernel
theorem dL_law_650 : decode cL_law 650 = .ok (.aload_n 0, 1) := by decide +kernel
theorem dL_law_651 : decode cL_law 651 = .ok (.iload_n 3, 1) := by decide +kernel
theorem dL_law_652 : decode cL_law 652 = .ok (.iconst 1, 1) := by decide +kernel
theorem dL_law_653 : decode cL_law 653 = .ok (.iadd, 1) := by decide +kernel
theorem dL_law_654 : decode cL_law 654 = .ok (.iaload, 1) := by decide +kernel
theorem dL_law_655 : decode cL_law 655 = .ok (.aload_n 0, 1) := by decide +kernel
theorem dL_law_656 : decode cL_law 656 = .ok (.iload_n 3, 1) := by decide +kernel
theorem dL_law_657 : decode cL_law 657 = .ok (.iconst 2, 1) := by decide +kernel
theorem dL_law_658 : decode cL_law 658 = .ok (.iadd, 1) := by decide +kernel
theorem dL_law_659 : decode cL_law 659 = .ok (.iaload, 1) := by decide +kernel
theorem dL_law_660 : decode cL_law 660 = .ok (.aload_n 0, 1) := by decide +kernel
theorem dL_law_661 : decode cL_law 661 = .ok (.iload_n 3, 1) := by decide +kernel
theorem dL_law_662 : decode cL_law 662 = .ok (.iconst 3, 1) := by decide +kernel
theorem dL_law_663 : decode cL_law 663 = .ok (.iadd, 1) := by decide +kernel
theorem dL_law_664 : decode cL_law 664 = .ok (.iaload, 1) := by decide +kernel
theorem dL_law_665 : decode cL_law 665 = .ok (.invokevirtual 80, 3) := by decide +kernel
theorem dL_law_668 : decode cL_law 668 = .ok (.if_icmp .eq 285, 3) := by decide +kernel
theorem dL_law_673 : decode cL_law 673 = .ok (.aload_n 1, 1) := by decide +kernel
theorem dL_law_674 : decode cL_law 674 = .ok (.aload_n 0, 1) := by decide +kernel
theorem dL_law_675 : decode cL_law 675 = .ok (.iload_n 3, 1) := by decide +kernel
theorem dL_law_676 : decode cL_law 676 = .ok (.iconst 1, 1) := by decide +kernel
theorem dL_law_677 : decode cL_law 677 = .ok (.iadd, 1) := by decide +kernel
theorem dL_law_678 : decode cL_law 678 = .ok (.iaload, 1) := by decide +kernel
theorem dL_law_679 : decode cL_law 679 = .ok (.aload_n 0, 1) := by decide +kernel
theorem dL_law_680 : decode cL_law 680 = .ok (.iload_n 3, 1) := by decide +kernel
theorem dL_law_681 : decode cL_law 681 = .ok (.iconst 2, 1) := by decide +kernel
theorem dL_law_682 : decode cL_law 682 = .ok (.iadd, 1) := by decide +kernel
theorem dL_law_683 : decode cL_law 683 = .ok (.iaload, 1) := by decide +kernel
theorem dL_law_684 : decode cL_law 684 = .ok (.aload_n 0, 1) := by decide +kernel
theorem dL_law_685 : decode cL_law 685 = .ok (.iload_n 3, 1) := by decide +kernel
theorem dL_law_686 : decode cL_law 686 = .ok (.iconst 3, 1) := by decide +kernel
theorem dL_law_687 : decode cL_law 687 = .ok (.iadd, 1) := by decide +kernel
theorem dL_law_688 : decode cL_law 688 = .ok (.iaload, 1) := by decide +kernel
theorem dL_law_689 : decode cL_law 689 = .ok (.invokevirtual 81, 3) := by decide +kernel
theorem dL_law_692 : decode cL_law 692 = .ok (.aload_n 2, 1) := by decide +kernel
theorem dL_law_693 : decode cL_law 693 = .ok (.aload_n 0, 1) := by decide +kernel
theorem dL_law_694 : decode cL_law 694 = .ok (.iload_n 3, 1) := by decide +kernel
theorem dL_law_695 : decode cL_law 695 = .ok (.iconst 1, 1) := by decide +kernel
theorem dL_law_696 : decode cL_law 696 = .ok (.iadd, 1) := by decide +kernel
theorem dL_law_697 : decode cL_law 697 = .ok (.iaload, 1) := by decide +kernel
theorem dL_law_698 : decode cL_law 698 = .ok (.aload_n 0, 1) := by decide +kernel
theorem dL_law_699 : decode cL_law 699 = .ok (.iload_n 3, 1) := by decide +kernel
theorem dL_law_700 : decode cL_law 700 = .ok (.iconst 2, 1) := by decide +kernel
theorem dL_law_701 : decode cL_law 701 = .ok (.iadd, 1) := by decide +kernel
theorem dL_law_702 : decode cL_law 702 = .ok (.iaload, 1) := by decide +kernel
theorem dL_law_703 : decode cL_law 703 = .ok (.aload_n 0, 1) := by decide +kernel
theorem dL_law_704 : decode cL_law 704 = .ok (.iload_n 3, 1) := by decide +kernel
theorem dL_law_705 : decode cL_law 705 = .ok (.iconst 3, 1) := by decide +kernel
theorem dL_law_706 : decode cL_law 706 = .ok (.iadd, 1) := by decide +kernel
theorem dL_law_707 : decode cL_law 707 = .ok (.iaload, 1) := by decide +kernel
theorem dL_law_708 : decode cL_law 708 = .ok (.invokevirtual 84, 3) := by decide +kernel
theorem dL_law_711 : decode cL_law 711 = .ok (.if_icmp .eq 242, 3) := by decide +kernel
theorem dL_law_716 : decode cL_law 716 = .ok (.aload_n 1, 1) := by decide +kernel
theorem dL_law_717 : decode cL_law 717 = .ok (.aload_n 0, 1) := by decide +kernel
theorem dL_law_718 : decode cL_law 718 = .ok (.iload_n 3, 1) := by decide +kernel
theorem dL_law_719 : decode cL_law 719 = .ok (.iconst 1, 1) := by decide +kernel
theorem dL_law_720 : decode cL_law 720 = .ok (.iadd, 1) := by decide +kernel
theorem dL_law_721 : decode cL_law 721 = .ok (.iaload, 1) := by decide +kernel
theorem dL_law_722 : decode cL_law 722 = .ok (.aload_n 0, 1) := by decide +kernel
theorem dL_law_723 : decode cL_law 723 = .ok (.iload_n 3, 1) := by decide +kernel
theorem dL_law_724 : decode cL_law 724 = .ok (.iconst 2, 1) := by decide +kernel
theorem dL_law_725 : decode cL_law 725 = .ok (.iadd, 1) := by decide +kernel
theorem dL_law_726 : decode cL_law 726 = .ok (.iaload, 1) := by decide +kernel
theorem dL_law_727 : decode cL_law 727 = .ok (.aload_n 0, 1) := by decide +kernel
theorem dL_law_728 : decode cL_law 728 = .ok (.iload_n 3, 1) := by decide +kernel
theorem dL_law_729 : decode cL_law 729 = .ok (.iconst 3, 1) := by decide +kernel
theorem dL_law_730 : decode cL_law 730 = .ok (.iadd, 1) := by decide +kernel
theorem dL_law_731 : decode cL_law 731 = .ok (.iaload, 1) := by decide +kernel
theorem dL_law_732 : decode cL_law 732 = .ok (.invokevirtual 85, 3) := by decide +kernel
theorem dL_law_735 : decode cL_law 735 = .ok (.aload_n 2, 1) := by decide +kernel
theorem dL_law_736 : decode cL_law 736 = .ok (.aload_n 0, 1) := by decide +kernel
theorem dL_law_737 : decode cL_law 737 = .ok (.iload_n 3, 1) := by decide +kernel
theorem dL_law_738 : decode cL_law 738 = .ok (.iconst 1, 1) := by decide +kernel
theorem dL_law_739 : decode cL_law 739 = .ok (.iadd, 1) := by decide +kernel
theorem dL_law_740 : decode cL_law 740 = .ok (.iaload, 1) := by decide +kernel
theorem dL_law_741 : decode cL_law 741 = .ok (.aload_n 0, 1) := by decide +kernel
theorem dL_law_742 : decode cL_law 742 = .ok (.iload_n 3, 1) := by decide +kernel
theorem dL_law_743 : decode cL_law 743 = .ok (.iconst 2, 1) := by decide +kernel
theorem dL_law_744 : decode cL_law 744 = .ok (.iadd, 1) := by decide +kernel
theorem dL_law_745 : decode cL_law 745 = .ok (.iaload, 1) := by decide +kernel
theorem dL_law_746 : decode cL_law 746 = .ok (.aload_n 0, 1) := by decide +kernel
theorem dL_law_747 : decode cL_law 747 = .ok (.iload_n 3, 1) := by decide +kernel
theorem dL_law_748 : decode cL_law 748 = .ok (.iconst 3, 1) := by decide +kernel
theorem dL_law_749 : decode cL_law 749 = .ok (.iadd, 1) := by decide +kernel
theorem dL_law_750 : decode cL_law 750 = .ok (.iaload, 1) := by decide +kernel
theorem dL_law_751 : decode cL_law 751 = .ok (.invokevirtual 88, 3) := by decide +kernel
theorem dL_law_754 : decode cL_law 754 = .ok (.if_icmp .eq 199, 3) := by decide +kernel
theorem dL_law_759 : decode cL_law 759 = .ok (.aload_n 1, 1) := by decide +kernel
theorem dL_law_760 : decode cL_law 760 = .ok (.aload_n 0, 1) := by decide +kernel
theorem dL_law_761 : decode cL_law 761 = .ok (.iload_n 3, 1) := by decide +kernel
theorem dL_law_762 : decode cL_law 762 = .ok (.iconst 1, 1) := by decide +kernel
theorem dL_law_763 : decode cL_law 763 = .ok (.iadd, 1) := by decide +kernel
theorem dL_law_764 : decode cL_law 764 = .ok (.iaload, 1) := by decide +kernel
theorem dL_law_765 : decode cL_law 765 = .ok (.invokevirtual 89, 3) := by decide +kernel
theorem dL_law_768 : decode cL_law 768 = .ok (.aload_n 2, 1) := by decide +kernel
theorem dL_law_769 : decode cL_law 769 = .ok (.aload_n 0, 1) := by decide +kernel
theorem dL_law_770 : decode cL_law 770 = .ok (.iload_n 3, 1) := by decide +kernel
theorem dL_law_771 : decode cL_law 771 = .ok (.iconst 1, 1) := by decide +kernel
theorem dL_law_772 : decode cL_law 772 = .ok (.iadd, 1) := by decide +kernel
theorem dL_law_773 : decode cL_law 773 = .ok (.iaload, 1) := by decide +kernel
theorem dL_law_774 : decode cL_law 774 = .ok (.invokevirtual 92, 3) := by decide +kernel
theorem dL_law_777 : decode cL_law 777 = .ok (.if_icmp .eq 176, 3) := by decide +kernel
theorem dL_law_782 : decode cL_law 782 = .ok (.aload_n 1, 1) := by decide +kernel
theorem dL_law_783 : decode cL_law 783 = .ok (.aload_n 0, 1) := by decide +kernel
theorem dL_law_784 : decode cL_law 784 = .ok (.iload_n 3, 1) := by decide +kernel
theorem dL_law_785 : decode cL_law 785 = .ok (.iconst 1, 1) := by decide +kernel
theorem dL_law_786 : decode cL_law 786 = .ok (.iadd, 1) := by decide +kernel
theorem dL_law_787 : decode cL_law 787 = .ok (.iaload, 1) := by decide +kernel
theorem dL_law_788 : decode cL_law 788 = .ok (.invokevirtual 93, 3) := by decide +kernel
theorem dL_law_791 : decode cL_law 791 = .ok (.aload_n 2, 1) := by decide +kernel
theorem dL_law_792 : decode cL_law 792 = .ok (.aload_n 0, 1) := by decide +kernel
theorem dL_law_793 : decode cL_law 793 = .ok (.iload_n 3, 1) := by decide +kernel
theorem dL_law_794 : decode cL_law 794 = .ok (.iconst 1, 1) := by decide +kernel
theorem dL_law_795 : decode cL_law 795 = .ok (.iadd, 1) := by decide +kernel
theorem dL_law_796 : decode cL_law 796 = .ok (.iaload, 1) := by decide +kernel
theorem dL_law_797 : decode cL_law 797 = .ok (.invokevirtual 96, 3) := by decide +kernel
theorem dL_law_800 : decode cL_law 800 = .ok (.if_icmp .eq 153, 3) := by decide +kernel
theorem dL_law_805 : decode cL_law 805 = .ok (.aload_n 1, 1) := by decide +kernel
theorem dL_law_806 : decode cL_law 806 = .ok (.aload_n 0, 1) := by decide +kernel
theorem dL_law_807 : decode cL_law 807 = .ok (.iload_n 3, 1) := by decide +kernel
theorem dL_law_808 : decode cL_law 808 = .ok (.iconst 1, 1) := by decide +kernel
theorem dL_law_809 : decode cL_law 809 = .ok (.iadd, 1) := by decide +kernel
theorem dL_law_810 : decode cL_law 810 = .ok (.iaload, 1) := by decide +kernel
theorem dL_law_811 : decode cL_law 811 = .ok (.invokevirtual 97, 3) := by decide +kernel
theorem dL_law_814 : decode cL_law 814 = .ok (.aload_n 2, 1) := by decide +kernel
theorem dL_law_815 : decode cL_law 815 = .ok (.aload_n 0, 1) := by decide +kernel
theorem dL_law_816 : decode cL_law 816 = .ok (.iload_n 3, 1) := by decide +kernel
theorem dL_law_817 : decode cL_law 817 = .ok (.iconst 1, 1) := by decide +kernel
theorem dL_law_818 : decode cL_law 818 = .ok (.iadd, 1) := by decide +kernel
theorem dL_law_819 : decode cL_law 819 = .ok (.iaload, 1) := by decide +kernel
theorem dL_law_820 : decode cL_law 820 = .ok (.invokevirtual 100, 3) := by decide +kernel
theorem dL_law_823 : decode cL_law 823 = .ok (.if_icmp .eq 130, 3) := by decide +kernel
theorem dL_law_828 : decode cL_law 828 = .ok (.aload_n 1, 1) := by decide +kernel
theorem dL_law_829 : decode cL_law 829 = .ok (.aload_n 0, 1) := by decide +kernel
theorem dL_law_830 : decode cL_law 830 = .ok (.iload_n 3, 1) := by decide +kernel
theorem dL_law_831 : decode cL_law 831 = .ok (.iconst 1, 1) := by decide +kernel
theorem dL_law_832 : decode cL_law 832 = .ok (.iadd, 1) := by decide +kernel
theorem dL_law_833 : decode cL_law 833 = .ok (.iaload, 1) := by decide +kernel
theorem dL_law_834 : decode cL_law 834 = .ok (.aload_n 0, 1) := by decide +kernel
theorem dL_law_835 : decode cL_law 835 = .ok (.iload_n 3, 1) := by decide +kernel
theorem dL_law_836 : decode cL_law 836 = .ok (.iconst 2, 1) := by decide +kernel
theorem dL_law_837 : decode cL_law 837 = .ok (.iadd, 1) := by decide +kernel
theorem dL_law_838 : decode cL_law 838 = .ok (.iaload, 1) := by decide +kernel
theorem dL_law_839 : decode cL_law 839 = .ok (.invokevirtual 101, 3) := by decide +kernel
theorem dL_law_842 : decode cL_law 842 = .ok (.aload_n 2, 1) := by decide +kernel
theorem dL_law_843 : decode cL_law 843 = .ok (.aload_n 0, 1) := by decide +kernel
theorem dL_law_844 : decode cL_law 844 = .ok (.iload_n 3, 1) := by decide +kernel
theorem dL_law_845 : decode cL_law 845 = .ok (.iconst 1, 1) := by decide +kernel
theorem dL_law_846 : decode cL_law 846 = .ok (.iadd, 1) := by decide +kernel
theorem dL_law_847 : decode cL_law 847 = .ok (.iaload, 1) := by decide +kernel
theorem dL_law_848 : decode cL_law 848 = .ok (.aload_n 0, 1) := by decide +kernel
theorem dL_law_849 : decode cL_law 849 = .ok (.iload_n 3, 1) := by decide +kernel
theorem dL_law_850 : decode cL_law 850 = .ok (.iconst 2, 1) := by decide +kernel
theorem dL_law_851 : decode cL_law 851 = .ok (.iadd, 1) := by decide +kernel
theorem dL_law_852 : decode cL_law 852 = .ok (.iaload, 1) := by decide +kernel
theorem dL_law_853 : decode cL_law 853 = .ok (.invokevirtual 104, 3) := by decide +kernel
theorem dL_law_856 : decode cL_law 856 = .ok (.if_icmp .eq 97, 3) := by decide +kernel
theorem dL_law_861 : decode cL_law 861 = .ok (.aload_n 1, 1) := by decide +kernel
theorem dL_law_862 : decode cL_law 862 = .ok (.aload_n 0, 1) := by decide +kernel
theorem dL_law_863 : decode cL_law 863 = .ok (.iload_n 3, 1) := by decide +kernel
theorem dL_law_864 : decode cL_law 864 = .ok (.iconst 1, 1) := by decide +kernel
theorem dL_law_865 : decode cL_law 865 = .ok (.iadd, 1) := by decide +kernel
theorem dL_law_866 : decode cL_law 866 = .ok (.iaload, 1) := by decide +kernel
theorem dL_law_867 : decode cL_law 867 = .ok (.aload_n 0, 1) := by decide +kernel
theorem dL_law_868 : decode cL_law 868 = .ok (.iload_n 3, 1) := by decide +kernel
theorem dL_law_869 : decode cL_law 869 = .ok (.iconst 2, 1) := by decide +kernel
theorem dL_law_870 : decode cL_law 870 = .ok (.iadd, 1) := by decide +kernel
theorem dL_law_871 : decode cL_law 871 = .ok (.iaload, 1) := by decide +kernel
theorem dL_law_872 : decode cL_law 872 = .ok (.invokevirtual 105, 3) := by decide +kernel
theorem dL_law_875 : decode cL_law 875 = .ok (.aload_n 2, 1) := by decide +kernel
theorem dL_law_876 : decode cL_law 876 = .ok (.aload_n 0, 1) := by decide +kernel
theorem dL_law_877 : decode cL_law 877 = .ok (.iload_n 3, 1) := by decide +kernel
theorem dL_law_878 : decode cL_law 878 = .ok (.iconst 1, 1) := by decide +kernel
theorem dL_law_879 : decode cL_law 879 = .ok (.iadd, 1) := by decide +kernel
theorem dL_law_880 : decode cL_law 880 = .ok (.iaload, 1) := by decide +kernel
theorem dL_law_881 : decode cL_law 881 = .ok (.aload_n 0, 1) := by decide +kernel
theorem dL_law_882 : decode cL_law 882 = .ok (.iload_n 3, 1) := by decide +kernel
theorem dL_law_883 : decode cL_law 883 = .ok (.iconst 2, 1) := by decide +kernel
theorem dL_law_884 : decode cL_law 884 = .ok (.iadd, 1) := by decide +kernel
theorem dL_law_885 : decode cL_law 885 = .ok (.iaload, 1) := by decide +kernel
theorem dL_law_886 : decode cL_law 886 = .ok (.invokevirtual 108, 3) := by decide +kernel
theorem dL_law_889 : decode cL_law 889 = .ok (.if_icmp .eq 64, 3) := by decide +kernel
theorem dL_law_894 : decode cL_law 894 = .ok (.aload_n 1, 1) := by decide +kernel
theorem dL_law_895 : decode cL_law 895 = .ok (.aload_n 0, 1) := by decide +kernel
theorem dL_law_896 : decode cL_law 896 = .ok (.iload_n 3, 1) := by decide +kernel
theorem dL_law_897 : decode cL_law 897 = .ok (.iconst 1, 1) := by decide +kernel
theorem dL_law_898 : decode cL_law 898 = .ok (.iadd, 1) := by decide +kernel
theorem dL_law_899 : decode cL_law 899 = .ok (.iaload, 1) := by decide +kernel
theorem dL_law_900 : decode cL_law 900 = .ok (.invokevirtual 109, 3) := by decide +kernel
theorem dL_law_903 : decode cL_law 903 = .ok (.aload_n 2, 1) := by decide +kernel
theorem dL_law_904 : decode cL_law 904 = .ok (.aload_n 0, 1) := by decide +kernel
theorem dL_law_905 : decode cL_law 905 = .ok (.iload_n 3, 1) := by decide +kernel
theorem dL_law_906 : decode cL_law 906 = .ok (.iconst 1, 1) := by decide +kernel
theorem dL_law_907 : decode cL_law 907 = .ok (.iadd, 1) := by decide +kernel
theorem dL_law_908 : decode cL_law 908 = .ok (.iaload, 1) := by decide +kernel
theorem dL_law_909 : decode cL_law 909 = .ok (.invokevirtual 112, 3) := by decide +kernel
theorem dL_law_912 : decode cL_law 912 = .ok (.if_icmp .eq 41, 3) := by decide +kernel
theorem dL_law_917 : decode cL_law 917 = .ok (.aload_n 1, 1) := by decide +kernel
theorem dL_law_918 : decode cL_law 918 = .ok (.aload_n 0, 1) := by decide +kernel
theorem dL_law_919 : decode cL_law 919 = .ok (.iload_n 3, 1) := by decide +kernel
theorem dL_law_920 : decode cL_law 920 = .ok (.iconst 1, 1) := by decide +kernel
theorem dL_law_921 : decode cL_law 921 = .ok (.iadd, 1) := by decide +kernel
theorem dL_law_922 : decode cL_law 922 = .ok (.iaload, 1) := by decide +kernel
theorem dL_law_923 : decode cL_law 923 = .ok (.invokevirtual 113, 3) := by decide +kernel
theorem dL_law_926 : decode cL_law 926 = .ok (.aload_n 2, 1) := by decide +kernel
theorem dL_law_927 : decode cL_law 927 = .ok (.aload_n 0, 1) := by decide +kernel
theorem dL_law_928 : decode cL_law 928 = .ok (.iload_n 3, 1) := by decide +kernel
theorem dL_law_929 : decode cL_law 929 = .ok (.iconst 1, 1) := by decide +kernel
theorem dL_law_930 : decode cL_law 930 = .ok (.iadd, 1) := by decide +kernel
theorem dL_law_931 : decode cL_law 931 = .ok (.iaload, 1) := by decide +kernel
theorem dL_law_932 : decode cL_law 932 = .ok (.invokevirtual 116, 3) := by decide +kernel
theorem dL_law_935 : decode cL_law 935 = .ok (.if_icmp .eq 18, 3) := by decide +kernel
theorem dL_law_940 : decode cL_law 940 = .ok (.aload_n 1, 1) := by decide +kernel
theorem dL_law_941 : decode cL_law 941 = .ok (.invokevirtual 117, 3) := by decide +kernel
theorem dL_law_944 : decode cL_law 944 = .ok (.aload_n 2, 1) := by decide +kernel
theorem dL_law_945 : decode cL_law 945 = .ok (.invokevirtual 120, 3) := by decide +kernel
theorem dL_law_948 : decode cL_law 948 = .ok (.if_icmp .eq 5, 3) := by decide +kernel
theorem REL_o {E : XE} {B N : Nat} {v : Nat → va_E} (h : REL E B N v) : ∃ fs, Cel N v 0 (.inr (10, fs)) := by
  obtain ⟨cu, old, kept, fau, fin, F, V, p, l, h⟩ := h
  exact ⟨_, h.2.1⟩
theorem lc_row {Γ : XT} {E : XE} {B b Lx i N kc ks : Nat} {v : Nat → va_E} {xs : Nat → Int32} (K : Cx Γ E B cL_law RL lw_tbl room_1) (hX : va_X b Lx xs Γ.2.2.2.2.1 Γ.2.2.2.2.1.heap) (hbB : b < B) (hi : 6 * i + 6 ≤ Lx) (hLx : Lx ≤ 3072) (hR : REL E B N v) (hkc : kc + 28 ≤ 600000) (hks : ks + 270 ≤ 7302250) (kk : ∀ N2 v2, REL E B N2 v2 → XW Γ N2 v2 [(3, .int (zI (6 * (i : Int)))), (2, .ref (B + 161)), (1, .ref (B + 0)), (0, .ref b)] (kc + 28) (ks + 270) 953 []) : XW Γ N v [(3, .int (zI (6 * (i : Int)))), (2, .ref (B + 161)), (1, .ref (B + 0)), (0, .ref b)] kc ks 148 [] := by
  obtain ⟨fs, ho⟩ := REL_o hR
  refine x_aload_n (pc := 148) 2 K rfl rfl dL_law_148 ?_
  refine x_aload_n (pc := 149) 3 K rfl rfl dL_law_149 ?_
  refine x_iload_n (pc := 150) 0 K rfl rfl dL_law_150 ?_
  refine x_iconst (pc := 151) K dL_law_151 ?_
  refine x_iadd (pc := 152) K dL_law_152 ?_
  refine x_sld (pc := 153) (6 * i + 1) K hX hbB (by omega) (by omega) (by omega) dL_law_153 ?_
  refine x_aload_n (pc := 154) 3 K rfl rfl dL_law_154 ?_
  refine x_iload_n (pc := 155) 0 K rfl rfl dL_law_155 ?_
  refine x_iconst (pc := 156) K dL_law_156 ?_
  refine x_iadd (pc := 157) K dL_law_157 ?_
  refine x_sld (pc := 158) (6 * i + 2) K hX hbB (by omega) (by omega) (by omega) dL_law_158 ?_
  refine x_aload_n (pc := 159) 3 K rfl rfl dL_law_159 ?_
  refine x_iload_n (pc := 160) 0 K rfl rfl dL_law_160 ?_
  refine x_iconst (pc := 161) K dL_law_161 ?_
  refine x_iadd (pc := 162) K dL_law_162 ?_
  refine x_sld (pc := 163) (6 * i + 3) K hX hbB (by omega) (by omega) (by omega) dL_law_163 ?_
  refine x_callV (pc := 164) (C := RX11) (T := TX11) (n := 12) (ci := 10) (As := [.int (zI ((xs (6 * i + 1)).toInt)), .int (zI ((xs (6 * i + 2)).toInt)), .int (zI ((xs (6 * i + 3)).toInt))]) K (st_row hR (zI_rng _) (zI_rng _) (zI_rng _)) lg_X11_row rfl (na := 3) (by decide +kernel) rfl ⟨(Nat.le_of_ble_eq_true rfl), (Nat.le_of_ble_eq_true rfl)⟩ ho rfl (st := []) rfl (Nat.le_of_ble_eq_true rfl) ⟨(show kc + 0 ≤ 600000 by omega), (show ks + 0 ≤ 7302250 by omega)⟩ dL_law_164 (fun r1 N1 v1 hpo1 hN1 => ?_)
  obtain ⟨res, rfl, ⟨F, V, hm⟩, hM⟩ := hpo1
  refine x_aload_n (pc := 167) 1 K rfl rfl dL_law_167 ?_
  refine x_aload_n (pc := 168) 3 K rfl rfl dL_law_168 ?_
  refine x_iload_n (pc := 169) 0 K rfl rfl dL_law_169 ?_
  refine x_iconst (pc := 170) K dL_law_170 ?_
  refine x_iadd (pc := 171) K dL_law_171 ?_
  refine x_sld (pc := 172) (6 * i + 1) K hX hbB (by omega) (by omega) (by omega) dL_law_172 ?_
  refine x_aload_n (pc := 173) 3 K rfl rfl dL_law_173 ?_
  refine x_iload_n (pc := 174) 0 K rfl rfl dL_law_174 ?_
  refine x_iconst (pc := 175) K dL_law_175 ?_
  refine x_iadd (pc := 176) K dL_law_176 ?_
  refine x_sld (pc := 177) (6 * i + 2) K hX hbB (by omega) (by omega) (by omega) dL_law_177 ?_
  refine x_aload_n (pc := 178) 3 K rfl rfl dL_law_178 ?_
  refine x_iload_n (pc := 179) 0 K rfl rfl dL_law_179 ?_
  refine x_iconst (pc := 180) K dL_law_180 ?_
  refine x_iadd (pc := 181) K dL_law_181 ?_
  refine x_sld (pc := 182) (6 * i + 3) K hX hbB (by omega) (by omega) (by omega) dL_law_182 ?_
  refine x_callV (pc := 183) (C := RX12) (T := TX12) (n := 26) (ci := 11) (As := [.int (zI ((xs (6 * i + 1)).toInt)), .int (zI ((xs (6 * i + 2)).toInt)), .int (zI ((xs (6 * i + 3)).toInt))]) K hM lg_X12_row rfl (na := 3) (by decide +kernel) rfl ⟨(Nat.le_of_ble_eq_true rfl), (Nat.le_of_ble_eq_true rfl)⟩ hm rfl (st := [.int (zI res)]) rfl (Nat.le_of_ble_eq_true rfl) ⟨(show kc + 0 + 0 ≤ 600000 by omega), (show ks + 0 + 0 ≤ 7302250 by omega)⟩ dL_law_183 (fun r2 N2 v2 hpo2 hN2 => ?_)
  obtain ⟨rfl, hR2⟩ := hpo2
  refine x_same (pc := 186) (tgt := 953) K dL_law_186 (by decide) ?_
  exact x_widen (show kc + 0 + 0 ≤ kc + 28 by omega) (show ks + 0 + 0 ≤ ks + 270 by omega) (kk N2 v2 hR2)
theorem lc_set {Γ : XT} {E : XE} {B b Lx i N kc ks : Nat} {v : Nat → va_E} {xs : Nat → Int32} (K : Cx Γ E B cL_law RL lw_tbl room_1) (hX : va_X b Lx xs Γ.2.2.2.2.1 Γ.2.2.2.2.1.heap) (hbB : b < B) (hi : 6 * i + 6 ≤ Lx) (hLx : Lx ≤ 3072) (hR : REL E B N v) (hkc : kc + 28 ≤ 600000) (hks : ks + 270 ≤ 7302250) (kk : ∀ N2 v2, REL E B N2 v2 → XW Γ N2 v2 [(3, .int (zI (6 * (i : Int)))), (2, .ref (B + 161)), (1, .ref (B + 0)), (0, .ref b)] (kc + 28) (ks + 270) 953 []) : XW Γ N v [(3, .int (zI (6 * (i : Int)))), (2, .ref (B + 161)), (1, .ref (B + 0)), (0, .ref b)] kc ks 191 [] := by
  obtain ⟨fs, ho⟩ := REL_o hR
  refine x_aload_n (pc := 191) 2 K rfl rfl dL_law_191 ?_
  refine x_aload_n (pc := 192) 3 K rfl rfl dL_law_192 ?_
  refine x_iload_n (pc := 193) 0 K rfl rfl dL_law_193 ?_
  refine x_iconst (pc := 194) K dL_law_194 ?_
  refine x_iadd (pc := 195) K dL_law_195 ?_
  refine x_sld (pc := 196) (6 * i + 1) K hX hbB (by omega) (by omega) (by omega) dL_law_196 ?_
  refine x_aload_n (pc := 197) 3 K rfl rfl dL_law_197 ?_
  refine x_iload_n (pc := 198) 0 K rfl rfl dL_law_198 ?_
  refine x_iconst (pc := 199) K dL_law_199 ?_
  refine x_iadd (pc := 200) K dL_law_200 ?_
  refine x_sld (pc := 201) (6 * i + 2) K hX hbB (by omega) (by omega) (by omega) dL_law_201 ?_
  refine x_aload_n (pc := 202) 3 K rfl rfl dL_law_202 ?_
  refine x_iload_n (pc := 203) 0 K rfl rfl dL_law_203 ?_
  refine x_iconst (pc := 204) K dL_law_204 ?_
  refine x_iadd (pc := 205) K dL_law_205 ?_
  refine x_sld (pc := 206) (6 * i + 3) K hX hbB (by omega) (by omega) (by omega) dL_law_206 ?_
  refine x_callV (pc := 207) (C := RX11) (T := TX11) (n := 12) (ci := 10) (As := [.int (zI ((xs (6 * i + 1)).toInt)), .int (zI ((xs (6 * i + 2)).toInt)), .int (zI ((xs (6 * i + 3)).toInt))]) K (st_set hR (zI_rng _) (zI_rng _) (zI_rng _)) lg_X11_set rfl (na := 3) (by decide +kernel) rfl ⟨(Nat.le_of_ble_eq_true rfl), (Nat.le_of_ble_eq_true rfl)⟩ ho rfl (st := []) rfl (Nat.le_of_ble_eq_true rfl) ⟨(show kc + 0 ≤ 600000 by omega), (show ks + 0 ≤ 7302250 by omega)⟩ dL_law_207 (fun r1 N1 v1 hpo1 hN1 => ?_)
  obtain ⟨res, rfl, ⟨F, V, hm⟩, hM⟩ := hpo1
  refine x_aload_n (pc := 210) 1 K rfl rfl dL_law_210 ?_
  refine x_aload_n (pc := 211) 3 K rfl rfl dL_law_211 ?_
  refine x_iload_n (pc := 212) 0 K rfl rfl dL_law_212 ?_
  refine x_iconst (pc := 213) K dL_law_213 ?_
  refine x_iadd (pc := 214) K dL_law_214 ?_
  refine x_sld (pc := 215) (6 * i + 1) K hX hbB (by omega) (by omega) (by omega) dL_law_215 ?_
  refine x_aload_n (pc := 216) 3 K rfl rfl dL_law_216 ?_
  refine x_iload_n (pc := 217) 0 K rfl rfl dL_law_217 ?_
  refine x_iconst (pc := 218) K dL_law_218 ?_
  refine x_iadd (pc := 219) K dL_law_219 ?_
  refine x_sld (pc := 220) (6 * i + 2) K hX hbB (by omega) (by omega) (by omega) dL_law_220 ?_
  refine x_aload_n (pc := 221) 3 K rfl rfl dL_law_221 ?_
  refine x_iload_n (pc := 222) 0 K rfl rfl dL_law_222 ?_
  refine x_iconst (pc := 223) K dL_law_223 ?_
  refine x_iadd (pc := 224) K dL_law_224 ?_
  refine x_sld (pc := 225) (6 * i + 3) K hX hbB (by omega) (by omega) (by omega) dL_law_225 ?_
  refine x_callV (pc := 226) (C := RX12) (T := TX12) (n := 26) (ci := 11) (As := [.int (zI ((xs (6 * i + 1)).toInt)), .int (zI ((xs (6 * i + 2)).toInt)), .int (zI ((xs (6 * i + 3)).toInt))]) K hM lg_X12_set rfl (na := 3) (by decide +kernel) rfl ⟨(Nat.le_of_ble_eq_true rfl), (Nat.le_of_ble_eq_true rfl)⟩ hm rfl (st := [.int (zI res)]) rfl (Nat.le_of_ble_eq_true rfl) ⟨(show kc + 0 + 0 ≤ 600000 by omega), (show ks + 0 + 0 ≤ 7302250 by omega)⟩ dL_law_226 (fun r2 N2 v2 hpo2 hN2 => ?_)
  obtain ⟨rfl, hR2⟩ := hpo2
  refine x_same (pc := 229) (tgt := 953) K dL_law_229 (by decide) ?_
  exact x_widen (show kc + 0 + 0 ≤ kc + 28 by omega) (show ks + 0 + 0 ≤ ks + 270 by omega) (kk N2 v2 hR2)
theorem lc_copy {Γ : XT} {E : XE} {B b Lx i N kc ks : Nat} {v : Nat → va_E} {xs : Nat → Int32} (K : Cx Γ E B cL_law RL lw_tbl room_1) (hX : va_X b Lx xs Γ.2.2.2.2.1 Γ.2.2.2.2.1.heap) (hbB : b < B) (hi : 6 * i + 6 ≤ Lx) (hLx : Lx ≤ 3072) (hR : REL E B N v) (hkc : kc + 28 ≤ 600000) (hks : ks + 270 ≤ 7302250) (kk : ∀ N2 v2, REL E B N2 v2 → XW Γ N2 v2 [(3, .int (zI (6 * (i : Int)))), (2, .ref (B + 161)), (1, .ref (B + 0)), (0, .ref b)] (kc + 28) (ks + 270) 953 []) : XW Γ N v [(3, .int (zI (6 * (i : Int)))), (2, .ref (B + 161)), (1, .ref (B + 0)), (0, .ref b)] kc ks 234 [] := by
  obtain ⟨fs, ho⟩ := REL_o hR
  refine x_aload_n (pc := 234) 2 K rfl rfl dL_law_234 ?_
  refine x_aload_n (pc := 235) 3 K rfl rfl dL_law_235 ?_
  refine x_iload_n (pc := 236) 0 K rfl rfl dL_law_236 ?_
  refine x_iconst (pc := 237) K dL_law_237 ?_
  refine x_iadd (pc := 238) K dL_law_238 ?_
  refine x_sld (pc := 239) (6 * i + 1) K hX hbB (by omega) (by omega) (by omega) dL_law_239 ?_
  refine x_aload_n (pc := 240) 3 K rfl rfl dL_law_240 ?_
  refine x_iload_n (pc := 241) 0 K rfl rfl dL_law_241 ?_
  refine x_iconst (pc := 242) K dL_law_242 ?_
  refine x_iadd (pc := 243) K dL_law_243 ?_
  refine x_sld (pc := 244) (6 * i + 2) K hX hbB (by omega) (by omega) (by omega) dL_law_244 ?_
  refine x_aload_n (pc := 245) 3 K rfl rfl dL_law_245 ?_
  refine x_iload_n (pc := 246) 0 K rfl rfl dL_law_246 ?_
  refine x_iconst (pc := 247) K dL_law_247 ?_
  refine x_iadd (pc := 248) K dL_law_248 ?_
  refine x_sld (pc := 249) (6 * i + 3) K hX hbB (by omega) (by omega) (by omega) dL_law_249 ?_
  refine x_aload_n (pc := 250) 3 K rfl rfl dL_law_250 ?_
  refine x_iload_n (pc := 251) 0 K rfl rfl dL_law_251 ?_
  refine x_iconst (pc := 252) K dL_law_252 ?_
  refine x_iadd (pc := 253) K dL_law_253 ?_
  refine x_sld (pc := 254) (6 * i + 4) K hX hbB (by omega) (by omega) (by omega) dL_law_254 ?_
  refine x_aload_n (pc := 255) 3 K rfl rfl dL_law_255 ?_
  refine x_iload_n (pc := 256) 0 K rfl rfl dL_law_256 ?_
  refine x_iconst (pc := 257) K dL_law_257 ?_
  refine x_iadd (pc := 258) K dL_law_258 ?_
  refine x_sld (pc := 259) (6 * i + 5) K hX hbB (by omega) (by omega) (by omega) dL_law_259 ?_
  refine x_callV (pc := 260) (C := RX11) (T := TX11) (n := 12) (ci := 10) (As := [.int (zI ((xs (6 * i + 1)).toInt)), .int (zI ((xs (6 * i + 2)).toInt)), .int (zI ((xs (6 * i + 3)).toInt)), .int (zI ((xs (6 * i + 4)).toInt)), .int (zI ((xs (6 * i + 5)).toInt))]) K (st_copy hR (zI_rng _) (zI_rng _) (zI_rng _) (zI_rng _) (zI_rng _)) lg_X11_copy rfl (na := 5) (by decide +kernel) rfl ⟨(Nat.le_of_ble_eq_true rfl), (Nat.le_of_ble_eq_true rfl)⟩ ho rfl (st := []) rfl (Nat.le_of_ble_eq_true rfl) ⟨(show kc + 0 ≤ 600000 by omega), (show ks + 0 ≤ 7302250 by omega)⟩ dL_law_260 (fun r1 N1 v1 hpo1 hN1 => ?_)
  obtain ⟨res, rfl, ⟨F, V, hm⟩, hM⟩ := hpo1
  refine x_aload_n (pc := 263) 1 K rfl rfl dL_law_263 ?_
  refine x_aload_n (pc := 264) 3 K rfl rfl dL_law_264 ?_
  refine x_iload_n (pc := 265) 0 K rfl rfl dL_law_265 ?_
  refine x_iconst (pc := 266) K dL_law_266 ?_
  refine x_iadd (pc := 267) K dL_law_267 ?_
  refine x_sld (pc := 268) (6 * i + 1) K hX hbB (by omega) (by omega) (by omega) dL_law_268 ?_
  refine x_aload_n (pc := 269) 3 K rfl rfl dL_law_269 ?_
  refine x_iload_n (pc := 270) 0 K rfl rfl dL_law_270 ?_
  refine x_iconst (pc := 271) K dL_law_271 ?_
  refine x_iadd (pc := 272) K dL_law_272 ?_
  refine x_sld (pc := 273) (6 * i + 2) K hX hbB (by omega) (by omega) (by omega) dL_law_273 ?_
  refine x_aload_n (pc := 274) 3 K rfl rfl dL_law_274 ?_
  refine x_iload_n (pc := 275) 0 K rfl rfl dL_law_275 ?_
  refine x_iconst (pc := 276) K dL_law_276 ?_
  refine x_iadd (pc := 277) K dL_law_277 ?_
  refine x_sld (pc := 278) (6 * i + 3) K hX hbB (by omega) (by omega) (by omega) dL_law_278 ?_
  refine x_aload_n (pc := 279) 3 K rfl rfl dL_law_279 ?_
  refine x_iload_n (pc := 280) 0 K rfl rfl dL_law_280 ?_
  refine x_iconst (pc := 281) K dL_law_281 ?_
  refine x_iadd (pc := 282) K dL_law_282 ?_
  refine x_sld (pc := 283) (6 * i + 4) K hX hbB (by omega) (by omega) (by omega) dL_law_283 ?_
  refine x_aload_n (pc := 284) 3 K rfl rfl dL_law_284 ?_
  refine x_iload_n (pc := 285) 0 K rfl rfl dL_law_285 ?_
  refine x_iconst (pc := 286) K dL_law_286 ?_
  refine x_iadd (pc := 287) K dL_law_287 ?_
  refine x_sld (pc := 288) (6 * i + 5) K hX hbB (by omega) (by omega) (by omega) dL_law_288 ?_
  refine x_callV (pc := 289) (C := RX12) (T := TX12) (n := 26) (ci := 11) (As := [.int (zI ((xs (6 * i + 1)).toInt)), .int (zI ((xs (6 * i + 2)).toInt)), .int (zI ((xs (6 * i + 3)).toInt)), .int (zI ((xs (6 * i + 4)).toInt)), .int (zI ((xs (6 * i + 5)).toInt))]) K hM lg_X12_copy rfl (na := 5) (by decide +kernel) rfl ⟨(Nat.le_of_ble_eq_true rfl), (Nat.le_of_ble_eq_true rfl)⟩ hm rfl (st := [.int (zI res)]) rfl (Nat.le_of_ble_eq_true rfl) ⟨(show kc + 0 + 0 ≤ 600000 by omega), (show ks + 0 + 0 ≤ 7302250 by omega)⟩ dL_law_289 (fun r2 N2 v2 hpo2 hN2 => ?_)
  obtain ⟨rfl, hR2⟩ := hpo2
  refine x_same (pc := 292) (tgt := 953) K dL_law_292 (by decide) ?_
  exact x_widen (show kc + 0 + 0 ≤ kc + 28 by omega) (show ks + 0 + 0 ≤ ks + 270 by omega) (kk N2 v2 hR2)
theorem lc_drop {Γ : XT} {E : XE} {B b Lx i N kc ks : Nat} {v : Nat → va_E} {xs : Nat → Int32} (K : Cx Γ E B cL_law RL lw_tbl room_1) (hX : va_X b Lx xs Γ.2.2.2.2.1 Γ.2.2.2.2.1.heap) (hbB : b < B) (hi : 6 * i + 6 ≤ Lx) (hLx : Lx ≤ 3072) (hR : REL E B N v) (hkc : kc + 28 ≤ 600000) (hks : ks + 270 ≤ 7302250) (kk : ∀ N2 v2, REL E B N2 v2 → XW Γ N2 v2 [(3, .int (zI (6 * (i : Int)))), (2, .ref (B + 161)), (1, .ref (B + 0)), (0, .ref b)] (kc + 28) (ks + 270) 953 []) : XW Γ N v [(3, .int (zI (6 * (i : Int)))), (2, .ref (B + 161)), (1, .ref (B + 0)), (0, .ref b)] kc ks 297 [] := by
  obtain ⟨fs, ho⟩ := REL_o hR
  refine x_aload_n (pc := 297) 2 K rfl rfl dL_law_297 ?_
  refine x_aload_n (pc := 298) 3 K rfl rfl dL_law_298 ?_
  refine x_iload_n (pc := 299) 0 K rfl rfl dL_law_299 ?_
  refine x_iconst (pc := 300) K dL_law_300 ?_
  refine x_iadd (pc := 301) K dL_law_301 ?_
  refine x_sld (pc := 302) (6 * i + 1) K hX hbB (by omega) (by omega) (by omega) dL_law_302 ?_
  refine x_callV (pc := 303) (C := RX11) (T := TX11) (n := 12) (ci := 10) (As := [.int (zI ((xs (6 * i + 1)).toInt))]) K (st_drop hR (zI_rng _)) lg_X11_drop rfl (na := 1) (by decide +kernel) rfl ⟨(Nat.le_of_ble_eq_true rfl), (Nat.le_of_ble_eq_true rfl)⟩ ho rfl (st := []) rfl (Nat.le_of_ble_eq_true rfl) ⟨(show kc + 0 ≤ 600000 by omega), (show ks + 0 ≤ 7302250 by omega)⟩ dL_law_303 (fun r1 N1 v1 hpo1 hN1 => ?_)
  obtain ⟨res, rfl, ⟨F, V, hm⟩, hM⟩ := hpo1
  refine x_aload_n (pc := 306) 1 K rfl rfl dL_law_306 ?_
  refine x_aload_n (pc := 307) 3 K rfl rfl dL_law_307 ?_
  refine x_iload_n (pc := 308) 0 K rfl rfl dL_law_308 ?_
  refine x_iconst (pc := 309) K dL_law_309 ?_
  refine x_iadd (pc := 310) K dL_law_310 ?_
  refine x_sld (pc := 311) (6 * i + 1) K hX hbB (by omega) (by omega) (by omega) dL_law_311 ?_
  refine x_callV (pc := 312) (C := RX12) (T := TX12) (n := 26) (ci := 11) (As := [.int (zI ((xs (6 * i + 1)).toInt))]) K hM lg_X12_drop rfl (na := 1) (by decide +kernel) rfl ⟨(Nat.le_of_ble_eq_true rfl), (Nat.le_of_ble_eq_true rfl)⟩ hm rfl (st := [.int (zI res)]) rfl (Nat.le_of_ble_eq_true rfl) ⟨(show kc + 0 + 0 ≤ 600000 by omega), (show ks + 0 + 0 ≤ 7302250 by omega)⟩ dL_law_312 (fun r2 N2 v2 hpo2 hN2 => ?_)
  obtain ⟨rfl, hR2⟩ := hpo2
  refine x_same (pc := 315) (tgt := 953) K dL_law_315 (by decide) ?_
  exact x_widen (show kc + 0 + 0 ≤ kc + 28 by omega) (show ks + 0 + 0 ≤ ks + 270 by omega) (kk N2 v2 hR2)
theorem lc_feed {Γ : XT} {E : XE} {B b Lx i N kc ks : Nat} {v : Nat → va_E} {xs : Nat → Int32} (K : Cx Γ E B cL_law RL lw_tbl room_1) (hX : va_X b Lx xs Γ.2.2.2.2.1 Γ.2.2.2.2.1.heap) (hbB : b < B) (hi : 6 * i + 6 ≤ Lx) (hLx : Lx ≤ 3072) (hR : REL E B N v) (hkc : kc + 28 ≤ 600000) (hks : ks + 270 ≤ 7302250) (kk : ∀ N2 v2, REL E B N2 v2 → XW Γ N2 v2 [(3, .int (zI (6 * (i : Int)))), (2, .ref (B + 161)), (1, .ref (B + 0)), (0, .ref b)] (kc + 28) (ks + 270) 953 []) : XW Γ N v [(3, .int (zI (6 * (i : Int)))), (2, .ref (B + 161)), (1, .ref (B + 0)), (0, .ref b)] kc ks 320 [] := by
  obtain ⟨fs, ho⟩ := REL_o hR
  refine x_aload_n (pc := 320) 2 K rfl rfl dL_law_320 ?_
  refine x_aload_n (pc := 321) 3 K rfl rfl dL_law_321 ?_
  refine x_iload_n (pc := 322) 0 K rfl rfl dL_law_322 ?_
  refine x_iconst (pc := 323) K dL_law_323 ?_
  refine x_iadd (pc := 324) K dL_law_324 ?_
  refine x_sld (pc := 325) (6 * i + 1) K hX hbB (by omega) (by omega) (by omega) dL_law_325 ?_
  refine x_i2l (pc := 326) K (zI_rng _) dL_law_326 ?_
  refine x_bipush (pc := 327) K (by decide) dL_law_327 ?_
  refine x_lshl (pc := 329) K dL_law_329 ?_
  refine x_aload_n (pc := 330) 3 K rfl rfl dL_law_330 ?_
  refine x_iload_n (pc := 331) 0 K rfl rfl dL_law_331 ?_
  refine x_iconst (pc := 332) K dL_law_332 ?_
  refine x_iadd (pc := 333) K dL_law_333 ?_
  refine x_sld (pc := 334) (6 * i + 2) K hX hbB (by omega) (by omega) (by omega) dL_law_334 ?_
  refine x_i2l (pc := 335) K (zI_rng _) dL_law_335 ?_
  refine x_ldc2 (pc := 336) (x := (4294967295)) (4294967295) K (by decide) (by decide +kernel) dL_law_336 ?_
  refine x_land (pc := 339) K dL_law_339 ?_
  refine x_lor (pc := 340) K dL_law_340 ?_
  refine x_aload_n (pc := 341) 3 K rfl rfl dL_law_341 ?_
  refine x_iload_n (pc := 342) 0 K rfl rfl dL_law_342 ?_
  refine x_iconst (pc := 343) K dL_law_343 ?_
  refine x_iadd (pc := 344) K dL_law_344 ?_
  refine x_sld (pc := 345) (6 * i + 3) K hX hbB (by omega) (by omega) (by omega) dL_law_345 ?_
  refine x_callV (pc := 346) (C := RX11) (T := TX11) (n := 12) (ci := 10) (As := [.long ((zL ((xs (6 * i + 1)).toInt) <<< ((zI 32).toInt64 &&& 63)) ||| (zL ((xs (6 * i + 2)).toInt) &&& zL 4294967295)), .int (zI ((xs (6 * i + 3)).toInt))]) K (st_feed hR (zI_rng _)) lg_X11_feed rfl (na := 2) (by decide +kernel) rfl ⟨(Nat.le_of_ble_eq_true rfl), (Nat.le_of_ble_eq_true rfl)⟩ ho rfl (st := []) rfl (Nat.le_of_ble_eq_true rfl) ⟨(show kc + 0 ≤ 600000 by omega), (show ks + 0 ≤ 7302250 by omega)⟩ dL_law_346 (fun r1 N1 v1 hpo1 hN1 => ?_)
  obtain ⟨res, rfl, ⟨F, V, hm⟩, hM⟩ := hpo1
  refine x_aload_n (pc := 349) 1 K rfl rfl dL_law_349 ?_
  refine x_aload_n (pc := 350) 3 K rfl rfl dL_law_350 ?_
  refine x_iload_n (pc := 351) 0 K rfl rfl dL_law_351 ?_
  refine x_iconst (pc := 352) K dL_law_352 ?_
  refine x_iadd (pc := 353) K dL_law_353 ?_
  refine x_sld (pc := 354) (6 * i + 1) K hX hbB (by omega) (by omega) (by omega) dL_law_354 ?_
  refine x_i2l (pc := 355) K (zI_rng _) dL_law_355 ?_
  refine x_bipush (pc := 356) K (by decide) dL_law_356 ?_
  refine x_lshl (pc := 358) K dL_law_358 ?_
  refine x_aload_n (pc := 359) 3 K rfl rfl dL_law_359 ?_
  refine x_iload_n (pc := 360) 0 K rfl rfl dL_law_360 ?_
  refine x_iconst (pc := 361) K dL_law_361 ?_
  refine x_iadd (pc := 362) K dL_law_362 ?_
  refine x_sld (pc := 363) (6 * i + 2) K hX hbB (by omega) (by omega) (by omega) dL_law_363 ?_
  refine x_i2l (pc := 364) K (zI_rng _) dL_law_364 ?_
  refine x_ldc2 (pc := 365) (x := (4294967295)) (4294967295) K (by decide) (by decide +kernel) dL_law_365 ?_
  refine x_land (pc := 368) K dL_law_368 ?_
  refine x_lor (pc := 369) K dL_law_369 ?_
  refine x_aload_n (pc := 370) 3 K rfl rfl dL_law_370 ?_
  refine x_iload_n (pc := 371) 0 K rfl rfl dL_law_371 ?_
  refine x_iconst (pc := 372) K dL_law_372 ?_
  refine x_iadd (pc := 373) K dL_law_373 ?_
  refine x_sld (pc := 374) (6 * i + 3) K hX hbB (by omega) (by omega) (by omega) dL_law_374 ?_
  refine x_callV (pc := 375) (C := RX12) (T := TX12) (n := 26) (ci := 11) (As := [.long ((zL ((xs (6 * i + 1)).toInt) <<< ((zI 32).toInt64 &&& 63)) ||| (zL ((xs (6 * i + 2)).toInt) &&& zL 4294967295)), .int (zI ((xs (6 * i + 3)).toInt))]) K hM lg_X12_feed rfl (na := 2) (by decide +kernel) rfl ⟨(Nat.le_of_ble_eq_true rfl), (Nat.le_of_ble_eq_true rfl)⟩ hm rfl (st := [.int (zI res)]) rfl (Nat.le_of_ble_eq_true rfl) ⟨(show kc + 0 + 0 ≤ 600000 by omega), (show ks + 0 + 0 ≤ 7302250 by omega)⟩ dL_law_375 (fun r2 N2 v2 hpo2 hN2 => ?_)
  obtain ⟨rfl, hR2⟩ := hpo2
  refine x_same (pc := 378) (tgt := 953) K dL_law_378 (by decide) ?_
  exact x_widen (show kc + 0 + 0 ≤ kc + 28 by omega) (show ks + 0 + 0 ≤ ks + 270 by omega) (kk N2 v2 hR2)
theorem lc_ground {Γ : XT} {E : XE} {B b Lx i N kc ks : Nat} {v : Nat → va_E} {xs : Nat → Int32} (K : Cx Γ E B cL_law RL lw_tbl room_1) (hX : va_X b Lx xs Γ.2.2.2.2.1 Γ.2.2.2.2.1.heap) (hbB : b < B) (hi : 6 * i + 6 ≤ Lx) (hLx : Lx ≤ 3072) (hR : REL E B N v) (hkc : kc + 28 ≤ 600000) (hks : ks + 270 ≤ 7302250) (kk : ∀ N2 v2, REL E B N2 v2 → XW Γ N2 v2 [(3, .int (zI (6 * (i : Int)))), (2, .ref (B + 161)), (1, .ref (B + 0)), (0, .ref b)] (kc + 28) (ks + 270) 953 []) : XW Γ N v [(3, .int (zI (6 * (i : Int)))), (2, .ref (B + 161)), (1, .ref (B + 0)), (0, .ref b)] kc ks 383 [] := by
  obtain ⟨fs, ho⟩ := REL_o hR
  refine x_aload_n (pc := 383) 2 K rfl rfl dL_law_383 ?_
  refine x_callV (pc := 384) (C := RX11) (T := TX11) (n := 12) (ci := 10) (As := []) K (st_ground hR ) lg_X11_ground rfl (na := 0) (by decide +kernel) rfl ⟨(Nat.le_of_ble_eq_true rfl), (Nat.le_of_ble_eq_true rfl)⟩ ho rfl (st := []) rfl (Nat.le_of_ble_eq_true rfl) ⟨(show kc + 28 ≤ 600000 by omega), (show ks + 270 ≤ 7302250 by omega)⟩ dL_law_384 (fun r1 N1 v1 hpo1 hN1 => ?_)
  obtain ⟨res, rfl, ⟨F, V, hm⟩, hM⟩ := hpo1
  refine x_aload_n (pc := 387) 1 K rfl rfl dL_law_387 ?_
  refine x_callV (pc := 388) (C := RX12) (T := TX12) (n := 26) (ci := 11) (As := []) K hM lg_X12_ground rfl (na := 0) (by decide +kernel) rfl ⟨(Nat.le_of_ble_eq_true rfl), (Nat.le_of_ble_eq_true rfl)⟩ hm rfl (st := [.int (zI res)]) rfl (Nat.le_of_ble_eq_true rfl) ⟨(show kc + 28 + 0 ≤ 600000 by omega), (show ks + 270 + 0 ≤ 7302250 by omega)⟩ dL_law_388 (fun r2 N2 v2 hpo2 hN2 => ?_)
  obtain ⟨rfl, hR2⟩ := hpo2
  refine x_same (pc := 391) (tgt := 953) K dL_law_391 (by decide) ?_
  exact x_widen (show kc + 28 + 0 ≤ kc + 28 by omega) (show ks + 270 + 0 ≤ ks + 270 by omega) (kk N2 v2 hR2)
theorem lc_fault {Γ : XT} {E : XE} {B b Lx i N kc ks : Nat} {v : Nat → va_E} {xs : Nat → Int32} (K : Cx Γ E B cL_law RL lw_tbl room_1) (hX : va_X b Lx xs Γ.2.2.2.2.1 Γ.2.2.2.2.1.heap) (hbB : b < B) (hi : 6 * i + 6 ≤ Lx) (hLx : Lx ≤ 3072) (hR : REL E B N v) (hkc : kc + 28 ≤ 600000) (hks : ks + 270 ≤ 7302250) (kk : ∀ N2 v2, REL E B N2 v2 → XW Γ N2 v2 [(3, .int (zI (6 * (i : Int)))), (2, .ref (B + 161)), (1, .ref (B + 0)), (0, .ref b)] (kc + 28) (ks + 270) 953 []) : XW Γ N v [(3, .int (zI (6 * (i : Int)))), (2, .ref (B + 161)), (1, .ref (B + 0)), (0, .ref b)] kc ks 396 [] := by
  obtain ⟨fs, ho⟩ := REL_o hR
  refine x_aload_n (pc := 396) 2 K rfl rfl dL_law_396 ?_
  refine x_callV (pc := 397) (C := RX11) (T := TX11) (n := 12) (ci := 10) (As := []) K (st_fault hR ) lg_X11_fault rfl (na := 0) (by decide +kernel) rfl ⟨(Nat.le_of_ble_eq_true rfl), (Nat.le_of_ble_eq_true rfl)⟩ ho rfl (st := []) rfl (Nat.le_of_ble_eq_true rfl) ⟨(show kc + 0 ≤ 600000 by omega), (show ks + 0 ≤ 7302250 by omega)⟩ dL_law_397 (fun r1 N1 v1 hpo1 hN1 => ?_)
  obtain ⟨res, rfl, ⟨F, V, hm⟩, hM⟩ := hpo1
  refine x_aload_n (pc := 400) 1 K rfl rfl dL_law_400 ?_
  refine x_callV (pc := 401) (C := RX12) (T := TX12) (n := 26) (ci := 11) (As := []) K hM lg_X12_fault rfl (na := 0) (by decide +kernel) rfl ⟨(Nat.le_of_ble_eq_true rfl), (Nat.le_of_ble_eq_true rfl)⟩ hm rfl (st := [.int (zI res)]) rfl (Nat.le_of_ble_eq_true rfl) ⟨(show kc + 0 + 0 ≤ 600000 by omega), (show ks + 0 + 0 ≤ 7302250 by omega)⟩ dL_law_401 (fun r2 N2 v2 hpo2 hN2 => ?_)
  obtain ⟨rfl, hR2⟩ := hpo2
  refine x_same (pc := 404) (tgt := 953) K dL_law_404 (by decide) ?_
  exact x_widen (show kc + 0 + 0 ≤ kc + 28 by omega) (show ks + 0 + 0 ≤ ks + 270 by omega) (kk N2 v2 hR2)
theorem lc_cross {Γ : XT} {E : XE} {B b Lx i N kc ks : Nat} {v : Nat → va_E} {xs : Nat → Int32} (K : Cx Γ E B cL_law RL lw_tbl room_1) (hX : va_X b Lx xs Γ.2.2.2.2.1 Γ.2.2.2.2.1.heap) (hbB : b < B) (hi : 6 * i + 6 ≤ Lx) (hLx : Lx ≤ 3072) (hR : REL E B N v) (hkc : kc + 28 ≤ 600000) (hks : ks + 270 ≤ 7302250) (kk : ∀ N2 v2, REL E B N2 v2 → XW Γ N2 v2 [(3, .int (zI (6 * (i : Int)))), (2, .ref (B + 161)), (1, .ref (B + 0)), (0, .ref b)] (kc + 28) (ks + 270) 953 []) : XW Γ N v [(3, .int (zI (6 * (i : Int)))), (2, .ref (B + 161)), (1, .ref (B + 0)), (0, .ref b)] kc ks 409 [] := by
  obtain ⟨fs, ho⟩ := REL_o hR
  refine x_aload_n (pc := 409) 2 K rfl rfl dL_law_409 ?_
  refine x_aload_n (pc := 410) 3 K rfl rfl dL_law_410 ?_
  refine x_iload_n (pc := 411) 0 K rfl rfl dL_law_411 ?_
  refine x_iconst (pc := 412) K dL_law_412 ?_
  refine x_iadd (pc := 413) K dL_law_413 ?_
  refine x_sld (pc := 414) (6 * i + 1) K hX hbB (by omega) (by omega) (by omega) dL_law_414 ?_
  refine x_aload_n (pc := 415) 3 K rfl rfl dL_law_415 ?_
  refine x_iload_n (pc := 416) 0 K rfl rfl dL_law_416 ?_
  refine x_iconst (pc := 417) K dL_law_417 ?_
  refine x_iadd (pc := 418) K dL_law_418 ?_
  refine x_sld (pc := 419) (6 * i + 2) K hX hbB (by omega) (by omega) (by omega) dL_law_419 ?_
  refine x_callV (pc := 420) (C := RX11) (T := TX11) (n := 12) (ci := 10) (As := [.int (zI ((xs (6 * i + 1)).toInt)), .int (zI ((xs (6 * i + 2)).toInt))]) K (st_cross hR (zI_rng _) (zI_rng _)) lg_X11_cross rfl (na := 2) (by decide +kernel) rfl ⟨(Nat.le_of_ble_eq_true rfl), (Nat.le_of_ble_eq_true rfl)⟩ ho rfl (st := []) rfl (Nat.le_of_ble_eq_true rfl) ⟨(show kc + 0 ≤ 600000 by omega), (show ks + 0 ≤ 7302250 by omega)⟩ dL_law_420 (fun r1 N1 v1 hpo1 hN1 => ?_)
  obtain ⟨res, rfl, ⟨F, V, hm⟩, hM⟩ := hpo1
  refine x_aload_n (pc := 423) 1 K rfl rfl dL_law_423 ?_
  refine x_aload_n (pc := 424) 3 K rfl rfl dL_law_424 ?_
  refine x_iload_n (pc := 425) 0 K rfl rfl dL_law_425 ?_
  refine x_iconst (pc := 426) K dL_law_426 ?_
  refine x_iadd (pc := 427) K dL_law_427 ?_
  refine x_sld (pc := 428) (6 * i + 1) K hX hbB (by omega) (by omega) (by omega) dL_law_428 ?_
  refine x_aload_n (pc := 429) 3 K rfl rfl dL_law_429 ?_
  refine x_iload_n (pc := 430) 0 K rfl rfl dL_law_430 ?_
  refine x_iconst (pc := 431) K dL_law_431 ?_
  refine x_iadd (pc := 432) K dL_law_432 ?_
  refine x_sld (pc := 433) (6 * i + 2) K hX hbB (by omega) (by omega) (by omega) dL_law_433 ?_
  refine x_callV (pc := 434) (C := RX12) (T := TX12) (n := 26) (ci := 11) (As := [.int (zI ((xs (6 * i + 1)).toInt)), .int (zI ((xs (6 * i + 2)).toInt))]) K hM lg_X12_cross rfl (na := 2) (by decide +kernel) rfl ⟨(Nat.le_of_ble_eq_true rfl), (Nat.le_of_ble_eq_true rfl)⟩ hm rfl (st := [.int (zI res)]) rfl (Nat.le_of_ble_eq_true rfl) ⟨(show kc + 0 + 0 ≤ 600000 by omega), (show ks + 0 + 0 ≤ 7302250 by omega)⟩ dL_law_434 (fun r2 N2 v2 hpo2 hN2 => ?_)
  obtain ⟨rfl, hR2⟩ := hpo2
  refine x_same (pc := 437) (tgt := 953) K dL_law_437 (by decide) ?_
  exact x_widen (show kc + 0 + 0 ≤ kc + 28 by omega) (show ks + 0 + 0 ≤ ks + 270 by omega) (kk N2 v2 hR2)
theorem lc_undo {Γ : XT} {E : XE} {B b Lx i N kc ks : Nat} {v : Nat → va_E} {xs : Nat → Int32} (K : Cx Γ E B cL_law RL lw_tbl room_1) (hX : va_X b Lx xs Γ.2.2.2.2.1 Γ.2.2.2.2.1.heap) (hbB : b < B) (hi : 6 * i + 6 ≤ Lx) (hLx : Lx ≤ 3072) (hR : REL E B N v) (hkc : kc + 28 ≤ 600000) (hks : ks + 270 ≤ 7302250) (kk : ∀ N2 v2, REL E B N2 v2 → XW Γ N2 v2 [(3, .int (zI (6 * (i : Int)))), (2, .ref (B + 161)), (1, .ref (B + 0)), (0, .ref b)] (kc + 28) (ks + 270) 953 []) : XW Γ N v [(3, .int (zI (6 * (i : Int)))), (2, .ref (B + 161)), (1, .ref (B + 0)), (0, .ref b)] kc ks 442 [] := by
  obtain ⟨fs, ho⟩ := REL_o hR
  refine x_aload_n (pc := 442) 2 K rfl rfl dL_law_442 ?_
  refine x_callV (pc := 443) (C := RX11) (T := TX11) (n := 12) (ci := 10) (As := []) K (st_undo hR ) lg_X11_undo rfl (na := 0) (by decide +kernel) rfl ⟨(Nat.le_of_ble_eq_true rfl), (Nat.le_of_ble_eq_true rfl)⟩ ho rfl (st := []) rfl (Nat.le_of_ble_eq_true rfl) ⟨(show kc + 0 ≤ 600000 by omega), (show ks + 0 ≤ 7302250 by omega)⟩ dL_law_443 (fun r1 N1 v1 hpo1 hN1 => ?_)
  obtain ⟨res, rfl, ⟨F, V, hm⟩, hM⟩ := hpo1
  refine x_aload_n (pc := 446) 1 K rfl rfl dL_law_446 ?_
  refine x_callV (pc := 447) (C := RX12) (T := TX12) (n := 26) (ci := 11) (As := []) K hM lg_X12_undo rfl (na := 0) (by decide +kernel) rfl ⟨(Nat.le_of_ble_eq_true rfl), (Nat.le_of_ble_eq_true rfl)⟩ hm rfl (st := [.int (zI res)]) rfl (Nat.le_of_ble_eq_true rfl) ⟨(show kc + 0 + 0 ≤ 600000 by omega), (show ks + 0 + 0 ≤ 7302250 by omega)⟩ dL_law_447 (fun r2 N2 v2 hpo2 hN2 => ?_)
  obtain ⟨rfl, hR2⟩ := hpo2
  refine x_same (pc := 450) (tgt := 953) K dL_law_450 (by decide) ?_
  exact x_widen (show kc + 0 + 0 ≤ kc + 28 by omega) (show ks + 0 + 0 ≤ ks + 270 by omega) (kk N2 v2 hR2)
theorem lc_person {Γ : XT} {E : XE} {B b Lx i N kc ks : Nat} {v : Nat → va_E} {xs : Nat → Int32} (K : Cx Γ E B cL_law RL lw_tbl room_1) (hX : va_X b Lx xs Γ.2.2.2.2.1 Γ.2.2.2.2.1.heap) (hbB : b < B) (hi : 6 * i + 6 ≤ Lx) (hLx : Lx ≤ 3072) (hR : REL E B N v) (hkc : kc + 28 ≤ 600000) (hks : ks + 270 ≤ 7302250) (kk : ∀ N2 v2, REL E B N2 v2 → XW Γ N2 v2 [(3, .int (zI (6 * (i : Int)))), (2, .ref (B + 161)), (1, .ref (B + 0)), (0, .ref b)] (kc + 28) (ks + 270) 953 []) : XW Γ N v [(3, .int (zI (6 * (i : Int)))), (2, .ref (B + 161)), (1, .ref (B + 0)), (0, .ref b)] kc ks 455 [] := by
  obtain ⟨fs, ho⟩ := REL_o hR
  refine x_aload_n (pc := 455) 2 K rfl rfl dL_law_455 ?_
  refine x_aload_n (pc := 456) 3 K rfl rfl dL_law_456 ?_
  refine x_iload_n (pc := 457) 0 K rfl rfl dL_law_457 ?_
  refine x_iconst (pc := 458) K dL_law_458 ?_
  refine x_iadd (pc := 459) K dL_law_459 ?_
  refine x_sld (pc := 460) (6 * i + 1) K hX hbB (by omega) (by omega) (by omega) dL_law_460 ?_
  refine x_aload_n (pc := 461) 3 K rfl rfl dL_law_461 ?_
  refine x_iload_n (pc := 462) 0 K rfl rfl dL_law_462 ?_
  refine x_iconst (pc := 463) K dL_law_463 ?_
  refine x_iadd (pc := 464) K dL_law_464 ?_
  refine x_sld (pc := 465) (6 * i + 2) K hX hbB (by omega) (by omega) (by omega) dL_law_465 ?_
  refine x_callV (pc := 466) (C := RX11) (T := TX11) (n := 12) (ci := 10) (As := [.int (zI ((xs (6 * i + 1)).toInt)), .int (zI ((xs (6 * i + 2)).toInt))]) K (st_person hR (zI_rng _) (zI_rng _)) lg_X11_person rfl (na := 2) (by decide +kernel) rfl ⟨(Nat.le_of_ble_eq_true rfl), (Nat.le_of_ble_eq_true rfl)⟩ ho rfl (st := []) rfl (Nat.le_of_ble_eq_true rfl) ⟨(show kc + 0 ≤ 600000 by omega), (show ks + 0 ≤ 7302250 by omega)⟩ dL_law_466 (fun r1 N1 v1 hpo1 hN1 => ?_)
  obtain ⟨res, rfl, ⟨F, V, hm⟩, hM⟩ := hpo1
  refine x_aload_n (pc := 469) 1 K rfl rfl dL_law_469 ?_
  refine x_aload_n (pc := 470) 3 K rfl rfl dL_law_470 ?_
  refine x_iload_n (pc := 471) 0 K rfl rfl dL_law_471 ?_
  refine x_iconst (pc := 472) K dL_law_472 ?_
  refine x_iadd (pc := 473) K dL_law_473 ?_
  refine x_sld (pc := 474) (6 * i + 1) K hX hbB (by omega) (by omega) (by omega) dL_law_474 ?_
  refine x_aload_n (pc := 475) 3 K rfl rfl dL_law_475 ?_
  refine x_iload_n (pc := 476) 0 K rfl rfl dL_law_476 ?_
  refine x_iconst (pc := 477) K dL_law_477 ?_
  refine x_iadd (pc := 478) K dL_law_478 ?_
  refine x_sld (pc := 479) (6 * i + 2) K hX hbB (by omega) (by omega) (by omega) dL_law_479 ?_
  refine x_callV (pc := 480) (C := RX12) (T := TX12) (n := 26) (ci := 11) (As := [.int (zI ((xs (6 * i + 1)).toInt)), .int (zI ((xs (6 * i + 2)).toInt))]) K hM lg_X12_person rfl (na := 2) (by decide +kernel) rfl ⟨(Nat.le_of_ble_eq_true rfl), (Nat.le_of_ble_eq_true rfl)⟩ hm rfl (st := [.int (zI res)]) rfl (Nat.le_of_ble_eq_true rfl) ⟨(show kc + 0 + 0 ≤ 600000 by omega), (show ks + 0 + 0 ≤ 7302250 by omega)⟩ dL_law_480 (fun r2 N2 v2 hpo2 hN2 => ?_)
  obtain ⟨rfl, hR2⟩ := hpo2
  refine x_same (pc := 483) (tgt := 953) K dL_law_483 (by decide) ?_
  exact x_widen (show kc + 0 + 0 ≤ kc + 28 by omega) (show ks + 0 + 0 ≤ ks + 270 by omega) (kk N2 v2 hR2)
theorem lc_cell {Γ : XT} {E : XE} {B b Lx i N kc ks : Nat} {v : Nat → va_E} {xs : Nat → Int32} (K : Cx Γ E B cL_law RL lw_tbl room_1) (hX : va_X b Lx xs Γ.2.2.2.2.1 Γ.2.2.2.2.1.heap) (hbB : b < B) (hi : 6 * i + 6 ≤ Lx) (hLx : Lx ≤ 3072) (hR : REL E B N v) (hkc : kc + 28 ≤ 600000) (hks : ks + 270 ≤ 7302250) (kk : ∀ N2 v2, REL E B N2 v2 → XW Γ N2 v2 [(3, .int (zI (6 * (i : Int)))), (2, .ref (B + 161)), (1, .ref (B + 0)), (0, .ref b)] (kc + 28) (ks + 270) 953 []) : XW Γ N v [(3, .int (zI (6 * (i : Int)))), (2, .ref (B + 161)), (1, .ref (B + 0)), (0, .ref b)] kc ks 488 [] := by
  obtain ⟨fs, ho⟩ := REL_o hR
  refine x_aload_n (pc := 488) 2 K rfl rfl dL_law_488 ?_
  refine x_aload_n (pc := 489) 3 K rfl rfl dL_law_489 ?_
  refine x_iload_n (pc := 490) 0 K rfl rfl dL_law_490 ?_
  refine x_iconst (pc := 491) K dL_law_491 ?_
  refine x_iadd (pc := 492) K dL_law_492 ?_
  refine x_sld (pc := 493) (6 * i + 1) K hX hbB (by omega) (by omega) (by omega) dL_law_493 ?_
  refine x_aload_n (pc := 494) 3 K rfl rfl dL_law_494 ?_
  refine x_iload_n (pc := 495) 0 K rfl rfl dL_law_495 ?_
  refine x_iconst (pc := 496) K dL_law_496 ?_
  refine x_iadd (pc := 497) K dL_law_497 ?_
  refine x_sld (pc := 498) (6 * i + 2) K hX hbB (by omega) (by omega) (by omega) dL_law_498 ?_
  refine x_callV (pc := 499) (C := RX11) (T := TX11) (n := 12) (ci := 10) (As := [.int (zI ((xs (6 * i + 1)).toInt)), .int (zI ((xs (6 * i + 2)).toInt))]) K (st_cell hR (zI_rng _) (zI_rng _)) lg_X11_cell rfl (na := 2) (by decide +kernel) rfl ⟨(Nat.le_of_ble_eq_true rfl), (Nat.le_of_ble_eq_true rfl)⟩ ho rfl (st := []) rfl (Nat.le_of_ble_eq_true rfl) ⟨(show kc + 0 ≤ 600000 by omega), (show ks + 0 ≤ 7302250 by omega)⟩ dL_law_499 (fun r1 N1 v1 hpo1 hN1 => ?_)
  obtain ⟨res, rfl, ⟨F, V, hm⟩, hM⟩ := hpo1
  refine x_aload_n (pc := 502) 1 K rfl rfl dL_law_502 ?_
  refine x_aload_n (pc := 503) 3 K rfl rfl dL_law_503 ?_
  refine x_iload_n (pc := 504) 0 K rfl rfl dL_law_504 ?_
  refine x_iconst (pc := 505) K dL_law_505 ?_
  refine x_iadd (pc := 506) K dL_law_506 ?_
  refine x_sld (pc := 507) (6 * i + 1) K hX hbB (by omega) (by omega) (by omega) dL_law_507 ?_
  refine x_aload_n (pc := 508) 3 K rfl rfl dL_law_508 ?_
  refine x_iload_n (pc := 509) 0 K rfl rfl dL_law_509 ?_
  refine x_iconst (pc := 510) K dL_law_510 ?_
  refine x_iadd (pc := 511) K dL_law_511 ?_
  refine x_sld (pc := 512) (6 * i + 2) K hX hbB (by omega) (by omega) (by omega) dL_law_512 ?_
  refine x_callV (pc := 513) (C := RX12) (T := TX12) (n := 26) (ci := 11) (As := [.int (zI ((xs (6 * i + 1)).toInt)), .int (zI ((xs (6 * i + 2)).toInt))]) K hM lg_X12_cell rfl (na := 2) (by decide +kernel) rfl ⟨(Nat.le_of_ble_eq_true rfl), (Nat.le_of_ble_eq_true rfl)⟩ hm rfl (st := [.int (zI res)]) rfl (Nat.le_of_ble_eq_true rfl) ⟨(show kc + 0 + 0 ≤ 600000 by omega), (show ks + 0 + 0 ≤ 7302250 by omega)⟩ dL_law_513 (fun r2 N2 v2 hpo2 hN2 => ?_)
  obtain ⟨rfl, hR2⟩ := hpo2
  refine x_same (pc := 516) (tgt := 953) K dL_law_516 (by decide) ?_
  exact x_widen (show kc + 0 + 0 ≤ kc + 28 by omega) (show ks + 0 + 0 ≤ ks + 270 by omega) (kk N2 v2 hR2)
theorem lc_land {Γ : XT} {E : XE} {B b Lx i N kc ks : Nat} {v : Nat → va_E} {xs : Nat → Int32} (K : Cx Γ E B cL_law RL lw_tbl room_1) (hX : va_X b Lx xs Γ.2.2.2.2.1 Γ.2.2.2.2.1.heap) (hbB : b < B) (hi : 6 * i + 6 ≤ Lx) (hLx : Lx ≤ 3072) (hR : REL E B N v) (hkc : kc + 28 ≤ 600000) (hks : ks + 270 ≤ 7302250) (kk : ∀ N2 v2, REL E B N2 v2 → XW Γ N2 v2 [(3, .int (zI (6 * (i : Int)))), (2, .ref (B + 161)), (1, .ref (B + 0)), (0, .ref b)] (kc + 28) (ks + 270) 953 []) : XW Γ N v [(3, .int (zI (6 * (i : Int)))), (2, .ref (B + 161)), (1, .ref (B + 0)), (0, .ref b)] kc ks 521 [] := by
  obtain ⟨fs, ho⟩ := REL_o hR
  refine x_aload_n (pc := 521) 2 K rfl rfl dL_law_521 ?_
  refine x_aload_n (pc := 522) 3 K rfl rfl dL_law_522 ?_
  refine x_iload_n (pc := 523) 0 K rfl rfl dL_law_523 ?_
  refine x_iconst (pc := 524) K dL_law_524 ?_
  refine x_iadd (pc := 525) K dL_law_525 ?_
  refine x_sld (pc := 526) (6 * i + 1) K hX hbB (by omega) (by omega) (by omega) dL_law_526 ?_
  refine x_aload_n (pc := 527) 3 K rfl rfl dL_law_527 ?_
  refine x_iload_n (pc := 528) 0 K rfl rfl dL_law_528 ?_
  refine x_iconst (pc := 529) K dL_law_529 ?_
  refine x_iadd (pc := 530) K dL_law_530 ?_
  refine x_sld (pc := 531) (6 * i + 2) K hX hbB (by omega) (by omega) (by omega) dL_law_531 ?_
  refine x_callV (pc := 532) (C := RX11) (T := TX11) (n := 12) (ci := 10) (As := [.int (zI ((xs (6 * i + 1)).toInt)), .int (zI ((xs (6 * i + 2)).toInt))]) K (st_land hR (zI_rng _) (zI_rng _)) lg_X11_land rfl (na := 2) (by decide +kernel) rfl ⟨(Nat.le_of_ble_eq_true rfl), (Nat.le_of_ble_eq_true rfl)⟩ ho rfl (st := []) rfl (Nat.le_of_ble_eq_true rfl) ⟨(show kc + 0 ≤ 600000 by omega), (show ks + 0 ≤ 7302250 by omega)⟩ dL_law_532 (fun r1 N1 v1 hpo1 hN1 => ?_)
  obtain ⟨res, rfl, ⟨F, V, hm⟩, hM⟩ := hpo1
  refine x_aload_n (pc := 535) 1 K rfl rfl dL_law_535 ?_
  refine x_aload_n (pc := 536) 3 K rfl rfl dL_law_536 ?_
  refine x_iload_n (pc := 537) 0 K rfl rfl dL_law_537 ?_
  refine x_iconst (pc := 538) K dL_law_538 ?_
  refine x_iadd (pc := 539) K dL_law_539 ?_
  refine x_sld (pc := 540) (6 * i + 1) K hX hbB (by omega) (by omega) (by omega) dL_law_540 ?_
  refine x_aload_n (pc := 541) 3 K rfl rfl dL_law_541 ?_
  refine x_iload_n (pc := 542) 0 K rfl rfl dL_law_542 ?_
  refine x_iconst (pc := 543) K dL_law_543 ?_
  refine x_iadd (pc := 544) K dL_law_544 ?_
  refine x_sld (pc := 545) (6 * i + 2) K hX hbB (by omega) (by omega) (by omega) dL_law_545 ?_
  refine x_callV (pc := 546) (C := RX12) (T := TX12) (n := 26) (ci := 11) (As := [.int (zI ((xs (6 * i + 1)).toInt)), .int (zI ((xs (6 * i + 2)).toInt))]) K hM lg_X12_land rfl (na := 2) (by decide +kernel) rfl ⟨(Nat.le_of_ble_eq_true rfl), (Nat.le_of_ble_eq_true rfl)⟩ hm rfl (st := [.int (zI res)]) rfl (Nat.le_of_ble_eq_true rfl) ⟨(show kc + 0 + 0 ≤ 600000 by omega), (show ks + 0 + 0 ≤ 7302250 by omega)⟩ dL_law_546 (fun r2 N2 v2 hpo2 hN2 => ?_)
  obtain ⟨rfl, hR2⟩ := hpo2
  refine x_same (pc := 549) (tgt := 953) K dL_law_549 (by decide) ?_
  exact x_widen (show kc + 0 + 0 ≤ kc + 28 by omega) (show ks + 0 + 0 ≤ ks + 270 by omega) (kk N2 v2 hR2)
theorem lc_best {Γ : XT} {E : XE} {B b Lx i N kc ks : Nat} {v : Nat → va_E} {xs : Nat → Int32} (K : Cx Γ E B cL_law RL lw_tbl room_1) (hX : va_X b Lx xs Γ.2.2.2.2.1 Γ.2.2.2.2.1.heap) (hbB : b < B) (hi : 6 * i + 6 ≤ Lx) (hLx : Lx ≤ 3072) (hR : REL E B N v) (hkc : kc + 28 ≤ 600000) (hks : ks + 270 ≤ 7302250) (kk : ∀ N2 v2, REL E B N2 v2 → XW Γ N2 v2 [(3, .int (zI (6 * (i : Int)))), (2, .ref (B + 161)), (1, .ref (B + 0)), (0, .ref b)] (kc + 28) (ks + 270) 953 []) : XW Γ N v [(3, .int (zI (6 * (i : Int)))), (2, .ref (B + 161)), (1, .ref (B + 0)), (0, .ref b)] kc ks 554 [] := by
  obtain ⟨fs, ho⟩ := REL_o hR
  refine x_aload_n (pc := 554) 2 K rfl rfl dL_law_554 ?_
  refine x_aload_n (pc := 555) 3 K rfl rfl dL_law_555 ?_
  refine x_iload_n (pc := 556) 0 K rfl rfl dL_law_556 ?_
  refine x_iconst (pc := 557) K dL_law_557 ?_
  refine x_iadd (pc := 558) K dL_law_558 ?_
  refine x_sld (pc := 559) (6 * i + 1) K hX hbB (by omega) (by omega) (by omega) dL_law_559 ?_
  refine x_aload_n (pc := 560) 3 K rfl rfl dL_law_560 ?_
  refine x_iload_n (pc := 561) 0 K rfl rfl dL_law_561 ?_
  refine x_iconst (pc := 562) K dL_law_562 ?_
  refine x_iadd (pc := 563) K dL_law_563 ?_
  refine x_sld (pc := 564) (6 * i + 2) K hX hbB (by omega) (by omega) (by omega) dL_law_564 ?_
  refine x_callV (pc := 565) (C := RX11) (T := TX11) (n := 12) (ci := 10) (As := [.int (zI ((xs (6 * i + 1)).toInt)), .int (zI ((xs (6 * i + 2)).toInt))]) K (st_best hR (zI_rng _) (zI_rng _)) lg_X11_best rfl (na := 2) (by decide +kernel) rfl ⟨(Nat.le_of_ble_eq_true rfl), (Nat.le_of_ble_eq_true rfl)⟩ ho rfl (st := []) rfl (Nat.le_of_ble_eq_true rfl) ⟨(show kc + 0 ≤ 600000 by omega), (show ks + 0 ≤ 7302250 by omega)⟩ dL_law_565 (fun r1 N1 v1 hpo1 hN1 => ?_)
  obtain ⟨res, rfl, ⟨F, V, hm⟩, hM⟩ := hpo1
  refine x_aload_n (pc := 568) 1 K rfl rfl dL_law_568 ?_
  refine x_aload_n (pc := 569) 3 K rfl rfl dL_law_569 ?_
  refine x_iload_n (pc := 570) 0 K rfl rfl dL_law_570 ?_
  refine x_iconst (pc := 571) K dL_law_571 ?_
  refine x_iadd (pc := 572) K dL_law_572 ?_
  refine x_sld (pc := 573) (6 * i + 1) K hX hbB (by omega) (by omega) (by omega) dL_law_573 ?_
  refine x_aload_n (pc := 574) 3 K rfl rfl dL_law_574 ?_
  refine x_iload_n (pc := 575) 0 K rfl rfl dL_law_575 ?_
  refine x_iconst (pc := 576) K dL_law_576 ?_
  refine x_iadd (pc := 577) K dL_law_577 ?_
  refine x_sld (pc := 578) (6 * i + 2) K hX hbB (by omega) (by omega) (by omega) dL_law_578 ?_
  refine x_callV (pc := 579) (C := RX12) (T := TX12) (n := 26) (ci := 11) (As := [.int (zI ((xs (6 * i + 1)).toInt)), .int (zI ((xs (6 * i + 2)).toInt))]) K hM lg_X12_best rfl (na := 2) (by decide +kernel) rfl ⟨(Nat.le_of_ble_eq_true rfl), (Nat.le_of_ble_eq_true rfl)⟩ hm rfl (st := [.int (zI res)]) rfl (Nat.le_of_ble_eq_true rfl) ⟨(show kc + 0 + 0 ≤ 600000 by omega), (show ks + 0 + 0 ≤ 7302250 by omega)⟩ dL_law_579 (fun r2 N2 v2 hpo2 hN2 => ?_)
  obtain ⟨rfl, hR2⟩ := hpo2
  refine x_same (pc := 582) (tgt := 953) K dL_law_582 (by decide) ?_
  exact x_widen (show kc + 0 + 0 ≤ kc + 28 by omega) (show ks + 0 + 0 ≤ ks + 270 by omega) (kk N2 v2 hR2)
theorem lc_answer {Γ : XT} {E : XE} {B b Lx i N kc ks : Nat} {v : Nat → va_E} {xs : Nat → Int32} (K : Cx Γ E B cL_law RL lw_tbl room_1) (hX : va_X b Lx xs Γ.2.2.2.2.1 Γ.2.2.2.2.1.heap) (hbB : b < B) (hi : 6 * i + 6 ≤ Lx) (hLx : Lx ≤ 3072) (hR : REL E B N v) (hkc : kc + 28 ≤ 600000) (hks : ks + 270 ≤ 7302250) (kk : ∀ N2 v2, REL E B N2 v2 → XW Γ N2 v2 [(3, .int (zI (6 * (i : Int)))), (2, .ref (B + 161)), (1, .ref (B + 0)), (0, .ref b)] (kc + 28) (ks + 270) 953 []) : XW Γ N v [(3, .int (zI (6 * (i : Int)))), (2, .ref (B + 161)), (1, .ref (B + 0)), (0, .ref b)] kc ks 587 [] := by
  obtain ⟨fs, ho⟩ := REL_o hR
  refine x_aload_n (pc := 587) 2 K rfl rfl dL_law_587 ?_
  refine x_aload_n (pc := 588) 3 K rfl rfl dL_law_588 ?_
  refine x_iload_n (pc := 589) 0 K rfl rfl dL_law_589 ?_
  refine x_iconst (pc := 590) K dL_law_590 ?_
  refine x_iadd (pc := 591) K dL_law_591 ?_
  refine x_sld (pc := 592) (6 * i + 1) K hX hbB (by omega) (by omega) (by omega) dL_law_592 ?_
  refine x_aload_n (pc := 593) 3 K rfl rfl dL_law_593 ?_
  refine x_iload_n (pc := 594) 0 K rfl rfl dL_law_594 ?_
  refine x_iconst (pc := 595) K dL_law_595 ?_
  refine x_iadd (pc := 596) K dL_law_596 ?_
  refine x_sld (pc := 597) (6 * i + 2) K hX hbB (by omega) (by omega) (by omega) dL_law_597 ?_
  refine x_aload_n (pc := 598) 3 K rfl rfl dL_law_598 ?_
  refine x_iload_n (pc := 599) 0 K rfl rfl dL_law_599 ?_
  refine x_iconst (pc := 600) K dL_law_600 ?_
  refine x_iadd (pc := 601) K dL_law_601 ?_
  refine x_sld (pc := 602) (6 * i + 3) K hX hbB (by omega) (by omega) (by omega) dL_law_602 ?_
  refine x_callV (pc := 603) (C := RX11) (T := TX11) (n := 12) (ci := 10) (As := [.int (zI ((xs (6 * i + 1)).toInt)), .int (zI ((xs (6 * i + 2)).toInt)), .int (zI ((xs (6 * i + 3)).toInt))]) K (st_answer hR (zI_rng _) (zI_rng _) (zI_rng _)) lg_X11_answer rfl (na := 3) (by decide +kernel) rfl ⟨(Nat.le_of_ble_eq_true rfl), (Nat.le_of_ble_eq_true rfl)⟩ ho rfl (st := []) rfl (Nat.le_of_ble_eq_true rfl) ⟨(show kc + 0 ≤ 600000 by omega), (show ks + 0 ≤ 7302250 by omega)⟩ dL_law_603 (fun r1 N1 v1 hpo1 hN1 => ?_)
  obtain ⟨res, rfl, ⟨F, V, hm⟩, hM⟩ := hpo1
  refine x_aload_n (pc := 606) 1 K rfl rfl dL_law_606 ?_
  refine x_aload_n (pc := 607) 3 K rfl rfl dL_law_607 ?_
  refine x_iload_n (pc := 608) 0 K rfl rfl dL_law_608 ?_
  refine x_iconst (pc := 609) K dL_law_609 ?_
  refine x_iadd (pc := 610) K dL_law_610 ?_
  refine x_sld (pc := 611) (6 * i + 1) K hX hbB (by omega) (by omega) (by omega) dL_law_611 ?_
  refine x_aload_n (pc := 612) 3 K rfl rfl dL_law_612 ?_
  refine x_iload_n (pc := 613) 0 K rfl rfl dL_law_613 ?_
  refine x_iconst (pc := 614) K dL_law_614 ?_
  refine x_iadd (pc := 615) K dL_law_615 ?_
  refine x_sld (pc := 616) (6 * i + 2) K hX hbB (by omega) (by omega) (by omega) dL_law_616 ?_
  refine x_aload_n (pc := 617) 3 K rfl rfl dL_law_617 ?_
  refine x_iload_n (pc := 618) 0 K rfl rfl dL_law_618 ?_
  refine x_iconst (pc := 619) K dL_law_619 ?_
  refine x_iadd (pc := 620) K dL_law_620 ?_
  refine x_sld (pc := 621) (6 * i + 3) K hX hbB (by omega) (by omega) (by omega) dL_law_621 ?_
  refine x_callV (pc := 622) (C := RX12) (T := TX12) (n := 26) (ci := 11) (As := [.int (zI ((xs (6 * i + 1)).toInt)), .int (zI ((xs (6 * i + 2)).toInt)), .int (zI ((xs (6 * i + 3)).toInt))]) K hM lg_X12_answer rfl (na := 3) (by decide +kernel) rfl ⟨(Nat.le_of_ble_eq_true rfl), (Nat.le_of_ble_eq_true rfl)⟩ hm rfl (st := [.int (zI res)]) rfl (Nat.le_of_ble_eq_true rfl) ⟨(show kc + 0 + 0 ≤ 600000 by omega), (show ks + 0 + 0 ≤ 7302250 by omega)⟩ dL_law_622 (fun r2 N2 v2 hpo2 hN2 => ?_)
  obtain ⟨rfl, hR2⟩ := hpo2
  refine x_same (pc := 625) (tgt := 953) K dL_law_625 (by decide) ?_
  exact x_widen (show kc + 0 + 0 ≤ kc + 28 by omega) (show ks + 0 + 0 ≤ ks + 270 by omega) (kk N2 v2 hR2)
theorem lc_game {Γ : XT} {E : XE} {B b Lx i N kc ks : Nat} {v : Nat → va_E} {xs : Nat → Int32} (K : Cx Γ E B cL_law RL lw_tbl room_1) (hX : va_X b Lx xs Γ.2.2.2.2.1 Γ.2.2.2.2.1.heap) (hbB : b < B) (hi : 6 * i + 6 ≤ Lx) (hLx : Lx ≤ 3072) (hR : REL E B N v) (hkc : kc + 28 ≤ 600000) (hks : ks + 270 ≤ 7302250) (kk : ∀ N2 v2, REL E B N2 v2 → XW Γ N2 v2 [(3, .int (zI (6 * (i : Int)))), (2, .ref (B + 161)), (1, .ref (B + 0)), (0, .ref b)] (kc + 28) (ks + 270) 953 []) : XW Γ N v [(3, .int (zI (6 * (i : Int)))), (2, .ref (B + 161)), (1, .ref (B + 0)), (0, .ref b)] kc ks 630 [] := by
  obtain ⟨fs, ho⟩ := REL_o hR
  refine x_aload_n (pc := 630) 2 K rfl rfl dL_law_630 ?_
  refine x_aload_n (pc := 631) 3 K rfl rfl dL_law_631 ?_
  refine x_iload_n (pc := 632) 0 K rfl rfl dL_law_632 ?_
  refine x_iconst (pc := 633) K dL_law_633 ?_
  refine x_iadd (pc := 634) K dL_law_634 ?_
  refine x_sld (pc := 635) (6 * i + 1) K hX hbB (by omega) (by omega) (by omega) dL_law_635 ?_
  refine x_aload_n (pc := 636) 3 K rfl rfl dL_law_636 ?_
  refine x_iload_n (pc := 637) 0 K rfl rfl dL_law_637 ?_
  refine x_iconst (pc := 638) K dL_law_638 ?_
  refine x_iadd (pc := 639) K dL_law_639 ?_
  refine x_sld (pc := 640) (6 * i + 2) K hX hbB (by omega) (by omega) (by omega) dL_law_640 ?_
  refine x_aload_n (pc := 641) 3 K rfl rfl dL_law_641 ?_
  refine x_iload_n (pc := 642) 0 K rfl rfl dL_law_642 ?_
  refine x_iconst (pc := 643) K dL_law_643 ?_
  refine x_iadd (pc := 644) K dL_law_644 ?_
  refine x_sld (pc := 645) (6 * i + 3) K hX hbB (by omega) (by omega) (by omega) dL_law_645 ?_
  refine x_callV (pc := 646) (C := RX11) (T := TX11) (n := 12) (ci := 10) (As := [.int (zI ((xs (6 * i + 1)).toInt)), .int (zI ((xs (6 * i + 2)).toInt)), .int (zI ((xs (6 * i + 3)).toInt))]) K (st_game hR (zI_rng _) (zI_rng _) (zI_rng _)) lg_X11_game rfl (na := 3) (by decide +kernel) rfl ⟨(Nat.le_of_ble_eq_true rfl), (Nat.le_of_ble_eq_true rfl)⟩ ho rfl (st := []) rfl (Nat.le_of_ble_eq_true rfl) ⟨(show kc + 0 ≤ 600000 by omega), (show ks + 0 ≤ 7302250 by omega)⟩ dL_law_646 (fun r1 N1 v1 hpo1 hN1 => ?_)
  obtain ⟨res, rfl, ⟨F, V, hm⟩, hM⟩ := hpo1
  refine x_aload_n (pc := 649) 1 K rfl rfl dL_law_649 ?_
  refine x_aload_n (pc := 650) 3 K rfl rfl dL_law_650 ?_
  refine x_iload_n (pc := 651) 0 K rfl rfl dL_law_651 ?_
  refine x_iconst (pc := 652) K dL_law_652 ?_
  refine x_iadd (pc := 653) K dL_law_653 ?_
  refine x_sld (pc := 654) (6 * i + 1) K hX hbB (by omega) (by omega) (by omega) dL_law_654 ?_
  refine x_aload_n (pc := 655) 3 K rfl rfl dL_law_655 ?_
  refine x_iload_n (pc := 656) 0 K rfl rfl dL_law_656 ?_
  refine x_iconst (pc := 657) K dL_law_657 ?_
  refine x_iadd (pc := 658) K dL_law_658 ?_
  refine x_sld (pc := 659) (6 * i + 2) K hX hbB (by omega) (by omega) (by omega) dL_law_659 ?_
  refine x_aload_n (pc := 660) 3 K rfl rfl dL_law_660 ?_
  refine x_iload_n (pc := 661) 0 K rfl rfl dL_law_661 ?_
  refine x_iconst (pc := 662) K dL_law_662 ?_
  refine x_iadd (pc := 663) K dL_law_663 ?_
  refine x_sld (pc := 664) (6 * i + 3) K hX hbB (by omega) (by omega) (by omega) dL_law_664 ?_
  refine x_callV (pc := 665) (C := RX12) (T := TX12) (n := 26) (ci := 11) (As := [.int (zI ((xs (6 * i + 1)).toInt)), .int (zI ((xs (6 * i + 2)).toInt)), .int (zI ((xs (6 * i + 3)).toInt))]) K hM lg_X12_game rfl (na := 3) (by decide +kernel) rfl ⟨(Nat.le_of_ble_eq_true rfl), (Nat.le_of_ble_eq_true rfl)⟩ hm rfl (st := [.int (zI res)]) rfl (Nat.le_of_ble_eq_true rfl) ⟨(show kc + 0 + 0 ≤ 600000 by omega), (show ks + 0 + 0 ≤ 7302250 by omega)⟩ dL_law_665 (fun r2 N2 v2 hpo2 hN2 => ?_)
  obtain ⟨rfl, hR2⟩ := hpo2
  refine x_same (pc := 668) (tgt := 953) K dL_law_668 (by decide) ?_
  exact x_widen (show kc + 0 + 0 ≤ kc + 28 by omega) (show ks + 0 + 0 ≤ ks + 270 by omega) (kk N2 v2 hR2)
theorem lc_held {Γ : XT} {E : XE} {B b Lx i N kc ks : Nat} {v : Nat → va_E} {xs : Nat → Int32} (K : Cx Γ E B cL_law RL lw_tbl room_1) (hX : va_X b Lx xs Γ.2.2.2.2.1 Γ.2.2.2.2.1.heap) (hbB : b < B) (hi : 6 * i + 6 ≤ Lx) (hLx : Lx ≤ 3072) (hR : REL E B N v) (hkc : kc + 28 ≤ 600000) (hks : ks + 270 ≤ 7302250) (kk : ∀ N2 v2, REL E B N2 v2 → XW Γ N2 v2 [(3, .int (zI (6 * (i : Int)))), (2, .ref (B + 161)), (1, .ref (B + 0)), (0, .ref b)] (kc + 28) (ks + 270) 953 []) : XW Γ N v [(3, .int (zI (6 * (i : Int)))), (2, .ref (B + 161)), (1, .ref (B + 0)), (0, .ref b)] kc ks 673 [] := by
  obtain ⟨fs, ho⟩ := REL_o hR
  refine x_aload_n (pc := 673) 2 K rfl rfl dL_law_673 ?_
  refine x_aload_n (pc := 674) 3 K rfl rfl dL_law_674 ?_
  refine x_iload_n (pc := 675) 0 K rfl rfl dL_law_675 ?_
  refine x_iconst (pc := 676) K dL_law_676 ?_
  refine x_iadd (pc := 677) K dL_law_677 ?_
  refine x_sld (pc := 678) (6 * i + 1) K hX hbB (by omega) (by omega) (by omega) dL_law_678 ?_
  refine x_aload_n (pc := 679) 3 K rfl rfl dL_law_679 ?_
  refine x_iload_n (pc := 680) 0 K rfl rfl dL_law_680 ?_
  refine x_iconst (pc := 681) K dL_law_681 ?_
  refine x_iadd (pc := 682) K dL_law_682 ?_
  refine x_sld (pc := 683) (6 * i + 2) K hX hbB (by omega) (by omega) (by omega) dL_law_683 ?_
  refine x_aload_n (pc := 684) 3 K rfl rfl dL_law_684 ?_
  refine x_iload_n (pc := 685) 0 K rfl rfl dL_law_685 ?_
  refine x_iconst (pc := 686) K dL_law_686 ?_
  refine x_iadd (pc := 687) K dL_law_687 ?_
  refine x_sld (pc := 688) (6 * i + 3) K hX hbB (by omega) (by omega) (by omega) dL_law_688 ?_
  refine x_callV (pc := 689) (C := RX11) (T := TX11) (n := 12) (ci := 10) (As := [.int (zI ((xs (6 * i + 1)).toInt)), .int (zI ((xs (6 * i + 2)).toInt)), .int (zI ((xs (6 * i + 3)).toInt))]) K (st_held hR (zI_rng _) (zI_rng _) (zI_rng _)) lg_X11_held rfl (na := 3) (by decide +kernel) rfl ⟨(Nat.le_of_ble_eq_true rfl), (Nat.le_of_ble_eq_true rfl)⟩ ho rfl (st := []) rfl (Nat.le_of_ble_eq_true rfl) ⟨(show kc + 0 ≤ 600000 by omega), (show ks + 0 ≤ 7302250 by omega)⟩ dL_law_689 (fun r1 N1 v1 hpo1 hN1 => ?_)
  obtain ⟨res, rfl, ⟨F, V, hm⟩, hM⟩ := hpo1
  refine x_aload_n (pc := 692) 1 K rfl rfl dL_law_692 ?_
  refine x_aload_n (pc := 693) 3 K rfl rfl dL_law_693 ?_
  refine x_iload_n (pc := 694) 0 K rfl rfl dL_law_694 ?_
  refine x_iconst (pc := 695) K dL_law_695 ?_
  refine x_iadd (pc := 696) K dL_law_696 ?_
  refine x_sld (pc := 697) (6 * i + 1) K hX hbB (by omega) (by omega) (by omega) dL_law_697 ?_
  refine x_aload_n (pc := 698) 3 K rfl rfl dL_law_698 ?_
  refine x_iload_n (pc := 699) 0 K rfl rfl dL_law_699 ?_
  refine x_iconst (pc := 700) K dL_law_700 ?_
  refine x_iadd (pc := 701) K dL_law_701 ?_
  refine x_sld (pc := 702) (6 * i + 2) K hX hbB (by omega) (by omega) (by omega) dL_law_702 ?_
  refine x_aload_n (pc := 703) 3 K rfl rfl dL_law_703 ?_
  refine x_iload_n (pc := 704) 0 K rfl rfl dL_law_704 ?_
  refine x_iconst (pc := 705) K dL_law_705 ?_
  refine x_iadd (pc := 706) K dL_law_706 ?_
  refine x_sld (pc := 707) (6 * i + 3) K hX hbB (by omega) (by omega) (by omega) dL_law_707 ?_
  refine x_callV (pc := 708) (C := RX12) (T := TX12) (n := 26) (ci := 11) (As := [.int (zI ((xs (6 * i + 1)).toInt)), .int (zI ((xs (6 * i + 2)).toInt)), .int (zI ((xs (6 * i + 3)).toInt))]) K hM lg_X12_held rfl (na := 3) (by decide +kernel) rfl ⟨(Nat.le_of_ble_eq_true rfl), (Nat.le_of_ble_eq_true rfl)⟩ hm rfl (st := [.int (zI res)]) rfl (Nat.le_of_ble_eq_true rfl) ⟨(show kc + 0 + 0 ≤ 600000 by omega), (show ks + 0 + 0 ≤ 7302250 by omega)⟩ dL_law_708 (fun r2 N2 v2 hpo2 hN2 => ?_)
  obtain ⟨rfl, hR2⟩ := hpo2
  refine x_same (pc := 711) (tgt := 953) K dL_law_711 (by decide) ?_
  exact x_widen (show kc + 0 + 0 ≤ kc + 28 by omega) (show ks + 0 + 0 ≤ ks + 270 by omega) (kk N2 v2 hR2)
theorem lc_went {Γ : XT} {E : XE} {B b Lx i N kc ks : Nat} {v : Nat → va_E} {xs : Nat → Int32} (K : Cx Γ E B cL_law RL lw_tbl room_1) (hX : va_X b Lx xs Γ.2.2.2.2.1 Γ.2.2.2.2.1.heap) (hbB : b < B) (hi : 6 * i + 6 ≤ Lx) (hLx : Lx ≤ 3072) (hR : REL E B N v) (hkc : kc + 28 ≤ 600000) (hks : ks + 270 ≤ 7302250) (kk : ∀ N2 v2, REL E B N2 v2 → XW Γ N2 v2 [(3, .int (zI (6 * (i : Int)))), (2, .ref (B + 161)), (1, .ref (B + 0)), (0, .ref b)] (kc + 28) (ks + 270) 953 []) : XW Γ N v [(3, .int (zI (6 * (i : Int)))), (2, .ref (B + 161)), (1, .ref (B + 0)), (0, .ref b)] kc ks 716 [] := by
  obtain ⟨fs, ho⟩ := REL_o hR
  refine x_aload_n (pc := 716) 2 K rfl rfl dL_law_716 ?_
  refine x_aload_n (pc := 717) 3 K rfl rfl dL_law_717 ?_
  refine x_iload_n (pc := 718) 0 K rfl rfl dL_law_718 ?_
  refine x_iconst (pc := 719) K dL_law_719 ?_
  refine x_iadd (pc := 720) K dL_law_720 ?_
  refine x_sld (pc := 721) (6 * i + 1) K hX hbB (by omega) (by omega) (by omega) dL_law_721 ?_
  refine x_aload_n (pc := 722) 3 K rfl rfl dL_law_722 ?_
  refine x_iload_n (pc := 723) 0 K rfl rfl dL_law_723 ?_
  refine x_iconst (pc := 724) K dL_law_724 ?_
  refine x_iadd (pc := 725) K dL_law_725 ?_
  refine x_sld (pc := 726) (6 * i + 2) K hX hbB (by omega) (by omega) (by omega) dL_law_726 ?_
  refine x_aload_n (pc := 727) 3 K rfl rfl dL_law_727 ?_
  refine x_iload_n (pc := 728) 0 K rfl rfl dL_law_728 ?_
  refine x_iconst (pc := 729) K dL_law_729 ?_
  refine x_iadd (pc := 730) K dL_law_730 ?_
  refine x_sld (pc := 731) (6 * i + 3) K hX hbB (by omega) (by omega) (by omega) dL_law_731 ?_
  refine x_callV (pc := 732) (C := RX11) (T := TX11) (n := 12) (ci := 10) (As := [.int (zI ((xs (6 * i + 1)).toInt)), .int (zI ((xs (6 * i + 2)).toInt)), .int (zI ((xs (6 * i + 3)).toInt))]) K (st_went hR (zI_rng _) (zI_rng _) (zI_rng _)) lg_X11_went rfl (na := 3) (by decide +kernel) rfl ⟨(Nat.le_of_ble_eq_true rfl), (Nat.le_of_ble_eq_true rfl)⟩ ho rfl (st := []) rfl (Nat.le_of_ble_eq_true rfl) ⟨(show kc + 0 ≤ 600000 by omega), (show ks + 0 ≤ 7302250 by omega)⟩ dL_law_732 (fun r1 N1 v1 hpo1 hN1 => ?_)
  obtain ⟨res, rfl, ⟨F, V, hm⟩, hM⟩ := hpo1
  refine x_aload_n (pc := 735) 1 K rfl rfl dL_law_735 ?_
  refine x_aload_n (pc := 736) 3 K rfl rfl dL_law_736 ?_
  refine x_iload_n (pc := 737) 0 K rfl rfl dL_law_737 ?_
  refine x_iconst (pc := 738) K dL_law_738 ?_
  refine x_iadd (pc := 739) K dL_law_739 ?_
  refine x_sld (pc := 740) (6 * i + 1) K hX hbB (by omega) (by omega) (by omega) dL_law_740 ?_
  refine x_aload_n (pc := 741) 3 K rfl rfl dL_law_741 ?_
  refine x_iload_n (pc := 742) 0 K rfl rfl dL_law_742 ?_
  refine x_iconst (pc := 743) K dL_law_743 ?_
  refine x_iadd (pc := 744) K dL_law_744 ?_
  refine x_sld (pc := 745) (6 * i + 2) K hX hbB (by omega) (by omega) (by omega) dL_law_745 ?_
  refine x_aload_n (pc := 746) 3 K rfl rfl dL_law_746 ?_
  refine x_iload_n (pc := 747) 0 K rfl rfl dL_law_747 ?_
  refine x_iconst (pc := 748) K dL_law_748 ?_
  refine x_iadd (pc := 749) K dL_law_749 ?_
  refine x_sld (pc := 750) (6 * i + 3) K hX hbB (by omega) (by omega) (by omega) dL_law_750 ?_
  refine x_callV (pc := 751) (C := RX12) (T := TX12) (n := 26) (ci := 11) (As := [.int (zI ((xs (6 * i + 1)).toInt)), .int (zI ((xs (6 * i + 2)).toInt)), .int (zI ((xs (6 * i + 3)).toInt))]) K hM lg_X12_went rfl (na := 3) (by decide +kernel) rfl ⟨(Nat.le_of_ble_eq_true rfl), (Nat.le_of_ble_eq_true rfl)⟩ hm rfl (st := [.int (zI res)]) rfl (Nat.le_of_ble_eq_true rfl) ⟨(show kc + 0 + 0 ≤ 600000 by omega), (show ks + 0 + 0 ≤ 7302250 by omega)⟩ dL_law_751 (fun r2 N2 v2 hpo2 hN2 => ?_)
  obtain ⟨rfl, hR2⟩ := hpo2
  refine x_same (pc := 754) (tgt := 953) K dL_law_754 (by decide) ?_
  exact x_widen (show kc + 0 + 0 ≤ kc + 28 by omega) (show ks + 0 + 0 ≤ ks + 270 by omega) (kk N2 v2 hR2)
theorem lc_image {Γ : XT} {E : XE} {B b Lx i N kc ks : Nat} {v : Nat → va_E} {xs : Nat → Int32} (K : Cx Γ E B cL_law RL lw_tbl room_1) (hX : va_X b Lx xs Γ.2.2.2.2.1 Γ.2.2.2.2.1.heap) (hbB : b < B) (hi : 6 * i + 6 ≤ Lx) (hLx : Lx ≤ 3072) (hR : REL E B N v) (hkc : kc + 28 ≤ 600000) (hks : ks + 270 ≤ 7302250) (kk : ∀ N2 v2, REL E B N2 v2 → XW Γ N2 v2 [(3, .int (zI (6 * (i : Int)))), (2, .ref (B + 161)), (1, .ref (B + 0)), (0, .ref b)] (kc + 28) (ks + 270) 953 []) : XW Γ N v [(3, .int (zI (6 * (i : Int)))), (2, .ref (B + 161)), (1, .ref (B + 0)), (0, .ref b)] kc ks 759 [] := by
  obtain ⟨fs, ho⟩ := REL_o hR
  refine x_aload_n (pc := 759) 2 K rfl rfl dL_law_759 ?_
  refine x_aload_n (pc := 760) 3 K rfl rfl dL_law_760 ?_
  refine x_iload_n (pc := 761) 0 K rfl rfl dL_law_761 ?_
  refine x_iconst (pc := 762) K dL_law_762 ?_
  refine x_iadd (pc := 763) K dL_law_763 ?_
  refine x_sld (pc := 764) (6 * i + 1) K hX hbB (by omega) (by omega) (by omega) dL_law_764 ?_
  refine x_callV (pc := 765) (C := RX11) (T := TX11) (n := 12) (ci := 10) (As := [.int (zI ((xs (6 * i + 1)).toInt))]) K (st_image hR (zI_rng _)) lg_X11_image rfl (na := 1) (by decide +kernel) rfl ⟨(Nat.le_of_ble_eq_true rfl), (Nat.le_of_ble_eq_true rfl)⟩ ho rfl (st := []) rfl (Nat.le_of_ble_eq_true rfl) ⟨(show kc + 0 ≤ 600000 by omega), (show ks + 0 ≤ 7302250 by omega)⟩ dL_law_765 (fun r1 N1 v1 hpo1 hN1 => ?_)
  obtain ⟨res, rfl, ⟨F, V, hm⟩, hM⟩ := hpo1
  refine x_aload_n (pc := 768) 1 K rfl rfl dL_law_768 ?_
  refine x_aload_n (pc := 769) 3 K rfl rfl dL_law_769 ?_
  refine x_iload_n (pc := 770) 0 K rfl rfl dL_law_770 ?_
  refine x_iconst (pc := 771) K dL_law_771 ?_
  refine x_iadd (pc := 772) K dL_law_772 ?_
  refine x_sld (pc := 773) (6 * i + 1) K hX hbB (by omega) (by omega) (by omega) dL_law_773 ?_
  refine x_callV (pc := 774) (C := RX12) (T := TX12) (n := 26) (ci := 11) (As := [.int (zI ((xs (6 * i + 1)).toInt))]) K hM lg_X12_image rfl (na := 1) (by decide +kernel) rfl ⟨(Nat.le_of_ble_eq_true rfl), (Nat.le_of_ble_eq_true rfl)⟩ hm rfl (st := [.int (zI res)]) rfl (Nat.le_of_ble_eq_true rfl) ⟨(show kc + 0 + 0 ≤ 600000 by omega), (show ks + 0 + 0 ≤ 7302250 by omega)⟩ dL_law_774 (fun r2 N2 v2 hpo2 hN2 => ?_)
  obtain ⟨rfl, hR2⟩ := hpo2
  refine x_same (pc := 777) (tgt := 953) K dL_law_777 (by decide) ?_
  exact x_widen (show kc + 0 + 0 ≤ kc + 28 by omega) (show ks + 0 + 0 ≤ ks + 270 by omega) (kk N2 v2 hR2)
theorem lc_restore {Γ : XT} {E : XE} {B b Lx i N kc ks : Nat} {v : Nat → va_E} {xs : Nat → Int32} (K : Cx Γ E B cL_law RL lw_tbl room_1) (hX : va_X b Lx xs Γ.2.2.2.2.1 Γ.2.2.2.2.1.heap) (hbB : b < B) (hi : 6 * i + 6 ≤ Lx) (hLx : Lx ≤ 3072) (hR : REL E B N v) (hkc : kc + 28 ≤ 600000) (hks : ks + 270 ≤ 7302250) (kk : ∀ N2 v2, REL E B N2 v2 → XW Γ N2 v2 [(3, .int (zI (6 * (i : Int)))), (2, .ref (B + 161)), (1, .ref (B + 0)), (0, .ref b)] (kc + 28) (ks + 270) 953 []) : XW Γ N v [(3, .int (zI (6 * (i : Int)))), (2, .ref (B + 161)), (1, .ref (B + 0)), (0, .ref b)] kc ks 782 [] := by
  obtain ⟨fs, ho⟩ := REL_o hR
  refine x_aload_n (pc := 782) 2 K rfl rfl dL_law_782 ?_
  refine x_aload_n (pc := 783) 3 K rfl rfl dL_law_783 ?_
  refine x_iload_n (pc := 784) 0 K rfl rfl dL_law_784 ?_
  refine x_iconst (pc := 785) K dL_law_785 ?_
  refine x_iadd (pc := 786) K dL_law_786 ?_
  refine x_sld (pc := 787) (6 * i + 1) K hX hbB (by omega) (by omega) (by omega) dL_law_787 ?_
  refine x_callV (pc := 788) (C := RX11) (T := TX11) (n := 12) (ci := 10) (As := [.int (zI ((xs (6 * i + 1)).toInt))]) K (st_restore hR (zI_rng _)) lg_X11_restore rfl (na := 1) (by decide +kernel) rfl ⟨(Nat.le_of_ble_eq_true rfl), (Nat.le_of_ble_eq_true rfl)⟩ ho rfl (st := []) rfl (Nat.le_of_ble_eq_true rfl) ⟨(show kc + 0 ≤ 600000 by omega), (show ks + 0 ≤ 7302250 by omega)⟩ dL_law_788 (fun r1 N1 v1 hpo1 hN1 => ?_)
  obtain ⟨res, rfl, ⟨F, V, hm⟩, hM⟩ := hpo1
  refine x_aload_n (pc := 791) 1 K rfl rfl dL_law_791 ?_
  refine x_aload_n (pc := 792) 3 K rfl rfl dL_law_792 ?_
  refine x_iload_n (pc := 793) 0 K rfl rfl dL_law_793 ?_
  refine x_iconst (pc := 794) K dL_law_794 ?_
  refine x_iadd (pc := 795) K dL_law_795 ?_
  refine x_sld (pc := 796) (6 * i + 1) K hX hbB (by omega) (by omega) (by omega) dL_law_796 ?_
  refine x_callV (pc := 797) (C := RX12) (T := TX12) (n := 26) (ci := 11) (As := [.int (zI ((xs (6 * i + 1)).toInt))]) K hM lg_X12_restore rfl (na := 1) (by decide +kernel) rfl ⟨(Nat.le_of_ble_eq_true rfl), (Nat.le_of_ble_eq_true rfl)⟩ hm rfl (st := [.int (zI res)]) rfl (Nat.le_of_ble_eq_true rfl) ⟨(show kc + 0 + 0 ≤ 600000 by omega), (show ks + 0 + 0 ≤ 7302250 by omega)⟩ dL_law_797 (fun r2 N2 v2 hpo2 hN2 => ?_)
  obtain ⟨rfl, hR2⟩ := hpo2
  refine x_same (pc := 800) (tgt := 953) K dL_law_800 (by decide) ?_
  exact x_widen (show kc + 0 + 0 ≤ kc + 28 by omega) (show ks + 0 + 0 ≤ ks + 270 by omega) (kk N2 v2 hR2)
theorem lc_kind {Γ : XT} {E : XE} {B b Lx i N kc ks : Nat} {v : Nat → va_E} {xs : Nat → Int32} (K : Cx Γ E B cL_law RL lw_tbl room_1) (hX : va_X b Lx xs Γ.2.2.2.2.1 Γ.2.2.2.2.1.heap) (hbB : b < B) (hi : 6 * i + 6 ≤ Lx) (hLx : Lx ≤ 3072) (hR : REL E B N v) (hkc : kc + 28 ≤ 600000) (hks : ks + 270 ≤ 7302250) (kk : ∀ N2 v2, REL E B N2 v2 → XW Γ N2 v2 [(3, .int (zI (6 * (i : Int)))), (2, .ref (B + 161)), (1, .ref (B + 0)), (0, .ref b)] (kc + 28) (ks + 270) 953 []) : XW Γ N v [(3, .int (zI (6 * (i : Int)))), (2, .ref (B + 161)), (1, .ref (B + 0)), (0, .ref b)] kc ks 805 [] := by
  obtain ⟨fs, ho⟩ := REL_o hR
  refine x_aload_n (pc := 805) 2 K rfl rfl dL_law_805 ?_
  refine x_aload_n (pc := 806) 3 K rfl rfl dL_law_806 ?_
  refine x_iload_n (pc := 807) 0 K rfl rfl dL_law_807 ?_
  refine x_iconst (pc := 808) K dL_law_808 ?_
  refine x_iadd (pc := 809) K dL_law_809 ?_
  refine x_sld (pc := 810) (6 * i + 1) K hX hbB (by omega) (by omega) (by omega) dL_law_810 ?_
  refine x_callV (pc := 811) (C := RX11) (T := TX11) (n := 12) (ci := 10) (As := [.int (zI ((xs (6 * i + 1)).toInt))]) K (st_kind hR (zI_rng _)) lg_X11_kind rfl (na := 1) (by decide +kernel) rfl ⟨(Nat.le_of_ble_eq_true rfl), (Nat.le_of_ble_eq_true rfl)⟩ ho rfl (st := []) rfl (Nat.le_of_ble_eq_true rfl) ⟨(show kc + 0 ≤ 600000 by omega), (show ks + 0 ≤ 7302250 by omega)⟩ dL_law_811 (fun r1 N1 v1 hpo1 hN1 => ?_)
  obtain ⟨res, rfl, ⟨F, V, hm⟩, hM⟩ := hpo1
  refine x_aload_n (pc := 814) 1 K rfl rfl dL_law_814 ?_
  refine x_aload_n (pc := 815) 3 K rfl rfl dL_law_815 ?_
  refine x_iload_n (pc := 816) 0 K rfl rfl dL_law_816 ?_
  refine x_iconst (pc := 817) K dL_law_817 ?_
  refine x_iadd (pc := 818) K dL_law_818 ?_
  refine x_sld (pc := 819) (6 * i + 1) K hX hbB (by omega) (by omega) (by omega) dL_law_819 ?_
  refine x_callV (pc := 820) (C := RX12) (T := TX12) (n := 26) (ci := 11) (As := [.int (zI ((xs (6 * i + 1)).toInt))]) K hM lg_X12_kind rfl (na := 1) (by decide +kernel) rfl ⟨(Nat.le_of_ble_eq_true rfl), (Nat.le_of_ble_eq_true rfl)⟩ hm rfl (st := [.int (zI res)]) rfl (Nat.le_of_ble_eq_true rfl) ⟨(show kc + 0 + 0 ≤ 600000 by omega), (show ks + 0 + 0 ≤ 7302250 by omega)⟩ dL_law_820 (fun r2 N2 v2 hpo2 hN2 => ?_)
  obtain ⟨rfl, hR2⟩ := hpo2
  refine x_same (pc := 823) (tgt := 953) K dL_law_823 (by decide) ?_
  exact x_widen (show kc + 0 + 0 ≤ kc + 28 by omega) (show ks + 0 + 0 ≤ ks + 270 by omega) (kk N2 v2 hR2)
theorem lc_as {Γ : XT} {E : XE} {B b Lx i N kc ks : Nat} {v : Nat → va_E} {xs : Nat → Int32} (K : Cx Γ E B cL_law RL lw_tbl room_1) (hX : va_X b Lx xs Γ.2.2.2.2.1 Γ.2.2.2.2.1.heap) (hbB : b < B) (hi : 6 * i + 6 ≤ Lx) (hLx : Lx ≤ 3072) (hR : REL E B N v) (hkc : kc + 28 ≤ 600000) (hks : ks + 270 ≤ 7302250) (kk : ∀ N2 v2, REL E B N2 v2 → XW Γ N2 v2 [(3, .int (zI (6 * (i : Int)))), (2, .ref (B + 161)), (1, .ref (B + 0)), (0, .ref b)] (kc + 28) (ks + 270) 953 []) : XW Γ N v [(3, .int (zI (6 * (i : Int)))), (2, .ref (B + 161)), (1, .ref (B + 0)), (0, .ref b)] kc ks 828 [] := by
  obtain ⟨fs, ho⟩ := REL_o hR
  refine x_aload_n (pc := 828) 2 K rfl rfl dL_law_828 ?_
  refine x_aload_n (pc := 829) 3 K rfl rfl dL_law_829 ?_
  refine x_iload_n (pc := 830) 0 K rfl rfl dL_law_830 ?_
  refine x_iconst (pc := 831) K dL_law_831 ?_
  refine x_iadd (pc := 832) K dL_law_832 ?_
  refine x_sld (pc := 833) (6 * i + 1) K hX hbB (by omega) (by omega) (by omega) dL_law_833 ?_
  refine x_aload_n (pc := 834) 3 K rfl rfl dL_law_834 ?_
  refine x_iload_n (pc := 835) 0 K rfl rfl dL_law_835 ?_
  refine x_iconst (pc := 836) K dL_law_836 ?_
  refine x_iadd (pc := 837) K dL_law_837 ?_
  refine x_sld (pc := 838) (6 * i + 2) K hX hbB (by omega) (by omega) (by omega) dL_law_838 ?_
  refine x_callV (pc := 839) (C := RX11) (T := TX11) (n := 12) (ci := 10) (As := [.int (zI ((xs (6 * i + 1)).toInt)), .int (zI ((xs (6 * i + 2)).toInt))]) K (st_as hR (zI_rng _) (zI_rng _)) lg_X11_as rfl (na := 2) (by decide +kernel) rfl ⟨(Nat.le_of_ble_eq_true rfl), (Nat.le_of_ble_eq_true rfl)⟩ ho rfl (st := []) rfl (Nat.le_of_ble_eq_true rfl) ⟨(show kc + 0 ≤ 600000 by omega), (show ks + 0 ≤ 7302250 by omega)⟩ dL_law_839 (fun r1 N1 v1 hpo1 hN1 => ?_)
  obtain ⟨res, rfl, ⟨F, V, hm⟩, hM⟩ := hpo1
  refine x_aload_n (pc := 842) 1 K rfl rfl dL_law_842 ?_
  refine x_aload_n (pc := 843) 3 K rfl rfl dL_law_843 ?_
  refine x_iload_n (pc := 844) 0 K rfl rfl dL_law_844 ?_
  refine x_iconst (pc := 845) K dL_law_845 ?_
  refine x_iadd (pc := 846) K dL_law_846 ?_
  refine x_sld (pc := 847) (6 * i + 1) K hX hbB (by omega) (by omega) (by omega) dL_law_847 ?_
  refine x_aload_n (pc := 848) 3 K rfl rfl dL_law_848 ?_
  refine x_iload_n (pc := 849) 0 K rfl rfl dL_law_849 ?_
  refine x_iconst (pc := 850) K dL_law_850 ?_
  refine x_iadd (pc := 851) K dL_law_851 ?_
  refine x_sld (pc := 852) (6 * i + 2) K hX hbB (by omega) (by omega) (by omega) dL_law_852 ?_
  refine x_callV (pc := 853) (C := RX12) (T := TX12) (n := 26) (ci := 11) (As := [.int (zI ((xs (6 * i + 1)).toInt)), .int (zI ((xs (6 * i + 2)).toInt))]) K hM lg_X12_as rfl (na := 2) (by decide +kernel) rfl ⟨(Nat.le_of_ble_eq_true rfl), (Nat.le_of_ble_eq_true rfl)⟩ hm rfl (st := [.int (zI res)]) rfl (Nat.le_of_ble_eq_true rfl) ⟨(show kc + 0 + 0 ≤ 600000 by omega), (show ks + 0 + 0 ≤ 7302250 by omega)⟩ dL_law_853 (fun r2 N2 v2 hpo2 hN2 => ?_)
  obtain ⟨rfl, hR2⟩ := hpo2
  refine x_same (pc := 856) (tgt := 953) K dL_law_856 (by decide) ?_
  exact x_widen (show kc + 0 + 0 ≤ kc + 28 by omega) (show ks + 0 + 0 ≤ ks + 270 by omega) (kk N2 v2 hR2)
theorem lc_ask {Γ : XT} {E : XE} {B b Lx i N kc ks : Nat} {v : Nat → va_E} {xs : Nat → Int32} (K : Cx Γ E B cL_law RL lw_tbl room_1) (hX : va_X b Lx xs Γ.2.2.2.2.1 Γ.2.2.2.2.1.heap) (hbB : b < B) (hi : 6 * i + 6 ≤ Lx) (hLx : Lx ≤ 3072) (hR : REL E B N v) (hkc : kc + 28 ≤ 600000) (hks : ks + 270 ≤ 7302250) (kk : ∀ N2 v2, REL E B N2 v2 → XW Γ N2 v2 [(3, .int (zI (6 * (i : Int)))), (2, .ref (B + 161)), (1, .ref (B + 0)), (0, .ref b)] (kc + 28) (ks + 270) 953 []) : XW Γ N v [(3, .int (zI (6 * (i : Int)))), (2, .ref (B + 161)), (1, .ref (B + 0)), (0, .ref b)] kc ks 861 [] := by
  obtain ⟨fs, ho⟩ := REL_o hR
  refine x_aload_n (pc := 861) 2 K rfl rfl dL_law_861 ?_
  refine x_aload_n (pc := 862) 3 K rfl rfl dL_law_862 ?_
  refine x_iload_n (pc := 863) 0 K rfl rfl dL_law_863 ?_
  refine x_iconst (pc := 864) K dL_law_864 ?_
  refine x_iadd (pc := 865) K dL_law_865 ?_
  refine x_sld (pc := 866) (6 * i + 1) K hX hbB (by omega) (by omega) (by omega) dL_law_866 ?_
  refine x_aload_n (pc := 867) 3 K rfl rfl dL_law_867 ?_
  refine x_iload_n (pc := 868) 0 K rfl rfl dL_law_868 ?_
  refine x_iconst (pc := 869) K dL_law_869 ?_
  refine x_iadd (pc := 870) K dL_law_870 ?_
  refine x_sld (pc := 871) (6 * i + 2) K hX hbB (by omega) (by omega) (by omega) dL_law_871 ?_
  refine x_callV (pc := 872) (C := RX11) (T := TX11) (n := 12) (ci := 10) (As := [.int (zI ((xs (6 * i + 1)).toInt)), .int (zI ((xs (6 * i + 2)).toInt))]) K (st_ask hR (zI_rng _) (zI_rng _)) lg_X11_ask rfl (na := 2) (by decide +kernel) rfl ⟨(Nat.le_of_ble_eq_true rfl), (Nat.le_of_ble_eq_true rfl)⟩ ho rfl (st := []) rfl (Nat.le_of_ble_eq_true rfl) ⟨(show kc + 0 ≤ 600000 by omega), (show ks + 0 ≤ 7302250 by omega)⟩ dL_law_872 (fun r1 N1 v1 hpo1 hN1 => ?_)
  obtain ⟨res, rfl, ⟨F, V, hm⟩, hM⟩ := hpo1
  refine x_aload_n (pc := 875) 1 K rfl rfl dL_law_875 ?_
  refine x_aload_n (pc := 876) 3 K rfl rfl dL_law_876 ?_
  refine x_iload_n (pc := 877) 0 K rfl rfl dL_law_877 ?_
  refine x_iconst (pc := 878) K dL_law_878 ?_
  refine x_iadd (pc := 879) K dL_law_879 ?_
  refine x_sld (pc := 880) (6 * i + 1) K hX hbB (by omega) (by omega) (by omega) dL_law_880 ?_
  refine x_aload_n (pc := 881) 3 K rfl rfl dL_law_881 ?_
  refine x_iload_n (pc := 882) 0 K rfl rfl dL_law_882 ?_
  refine x_iconst (pc := 883) K dL_law_883 ?_
  refine x_iadd (pc := 884) K dL_law_884 ?_
  refine x_sld (pc := 885) (6 * i + 2) K hX hbB (by omega) (by omega) (by omega) dL_law_885 ?_
  refine x_callV (pc := 886) (C := RX12) (T := TX12) (n := 26) (ci := 11) (As := [.int (zI ((xs (6 * i + 1)).toInt)), .int (zI ((xs (6 * i + 2)).toInt))]) K hM lg_X12_ask rfl (na := 2) (by decide +kernel) rfl ⟨(Nat.le_of_ble_eq_true rfl), (Nat.le_of_ble_eq_true rfl)⟩ hm rfl (st := [.int (zI res)]) rfl (Nat.le_of_ble_eq_true rfl) ⟨(show kc + 0 + 0 ≤ 600000 by omega), (show ks + 0 + 0 ≤ 7302250 by omega)⟩ dL_law_886 (fun r2 N2 v2 hpo2 hN2 => ?_)
  obtain ⟨rfl, hR2⟩ := hpo2
  refine x_same (pc := 889) (tgt := 953) K dL_law_889 (by decide) ?_
  exact x_widen (show kc + 0 + 0 ≤ kc + 28 by omega) (show ks + 0 + 0 ≤ ks + 270 by omega) (kk N2 v2 hR2)
theorem lc_trace {Γ : XT} {E : XE} {B b Lx i N kc ks : Nat} {v : Nat → va_E} {xs : Nat → Int32} (K : Cx Γ E B cL_law RL lw_tbl room_1) (hX : va_X b Lx xs Γ.2.2.2.2.1 Γ.2.2.2.2.1.heap) (hbB : b < B) (hi : 6 * i + 6 ≤ Lx) (hLx : Lx ≤ 3072) (hR : REL E B N v) (hkc : kc + 28 ≤ 600000) (hks : ks + 270 ≤ 7302250) (kk : ∀ N2 v2, REL E B N2 v2 → XW Γ N2 v2 [(3, .int (zI (6 * (i : Int)))), (2, .ref (B + 161)), (1, .ref (B + 0)), (0, .ref b)] (kc + 28) (ks + 270) 953 []) : XW Γ N v [(3, .int (zI (6 * (i : Int)))), (2, .ref (B + 161)), (1, .ref (B + 0)), (0, .ref b)] kc ks 894 [] := by
  obtain ⟨fs, ho⟩ := REL_o hR
  refine x_aload_n (pc := 894) 2 K rfl rfl dL_law_894 ?_
  refine x_aload_n (pc := 895) 3 K rfl rfl dL_law_895 ?_
  refine x_iload_n (pc := 896) 0 K rfl rfl dL_law_896 ?_
  refine x_iconst (pc := 897) K dL_law_897 ?_
  refine x_iadd (pc := 898) K dL_law_898 ?_
  refine x_sld (pc := 899) (6 * i + 1) K hX hbB (by omega) (by omega) (by omega) dL_law_899 ?_
  refine x_callV (pc := 900) (C := RX11) (T := TX11) (n := 12) (ci := 10) (As := [.int (zI ((xs (6 * i + 1)).toInt))]) K (st_trace hR (zI_rng _)) lg_X11_trace rfl (na := 1) (by decide +kernel) rfl ⟨(Nat.le_of_ble_eq_true rfl), (Nat.le_of_ble_eq_true rfl)⟩ ho rfl (st := []) rfl (Nat.le_of_ble_eq_true rfl) ⟨(show kc + 0 ≤ 600000 by omega), (show ks + 0 ≤ 7302250 by omega)⟩ dL_law_900 (fun r1 N1 v1 hpo1 hN1 => ?_)
  obtain ⟨res, rfl, ⟨F, V, hm⟩, hM⟩ := hpo1
  refine x_aload_n (pc := 903) 1 K rfl rfl dL_law_903 ?_
  refine x_aload_n (pc := 904) 3 K rfl rfl dL_law_904 ?_
  refine x_iload_n (pc := 905) 0 K rfl rfl dL_law_905 ?_
  refine x_iconst (pc := 906) K dL_law_906 ?_
  refine x_iadd (pc := 907) K dL_law_907 ?_
  refine x_sld (pc := 908) (6 * i + 1) K hX hbB (by omega) (by omega) (by omega) dL_law_908 ?_
  refine x_callV (pc := 909) (C := RX12) (T := TX12) (n := 26) (ci := 11) (As := [.int (zI ((xs (6 * i + 1)).toInt))]) K hM lg_X12_trace rfl (na := 1) (by decide +kernel) rfl ⟨(Nat.le_of_ble_eq_true rfl), (Nat.le_of_ble_eq_true rfl)⟩ hm rfl (st := [.int (zI res)]) rfl (Nat.le_of_ble_eq_true rfl) ⟨(show kc + 0 + 0 ≤ 600000 by omega), (show ks + 0 + 0 ≤ 7302250 by omega)⟩ dL_law_909 (fun r2 N2 v2 hpo2 hN2 => ?_)
  obtain ⟨rfl, hR2⟩ := hpo2
  refine x_same (pc := 912) (tgt := 953) K dL_law_912 (by decide) ?_
  exact x_widen (show kc + 0 + 0 ≤ kc + 28 by omega) (show ks + 0 + 0 ≤ ks + 270 by omega) (kk N2 v2 hR2)
theorem lc_count {Γ : XT} {E : XE} {B b Lx i N kc ks : Nat} {v : Nat → va_E} {xs : Nat → Int32} (K : Cx Γ E B cL_law RL lw_tbl room_1) (hX : va_X b Lx xs Γ.2.2.2.2.1 Γ.2.2.2.2.1.heap) (hbB : b < B) (hi : 6 * i + 6 ≤ Lx) (hLx : Lx ≤ 3072) (hR : REL E B N v) (hkc : kc + 28 ≤ 600000) (hks : ks + 270 ≤ 7302250) (kk : ∀ N2 v2, REL E B N2 v2 → XW Γ N2 v2 [(3, .int (zI (6 * (i : Int)))), (2, .ref (B + 161)), (1, .ref (B + 0)), (0, .ref b)] (kc + 28) (ks + 270) 953 []) : XW Γ N v [(3, .int (zI (6 * (i : Int)))), (2, .ref (B + 161)), (1, .ref (B + 0)), (0, .ref b)] kc ks 917 [] := by
  obtain ⟨fs, ho⟩ := REL_o hR
  refine x_aload_n (pc := 917) 2 K rfl rfl dL_law_917 ?_
  refine x_aload_n (pc := 918) 3 K rfl rfl dL_law_918 ?_
  refine x_iload_n (pc := 919) 0 K rfl rfl dL_law_919 ?_
  refine x_iconst (pc := 920) K dL_law_920 ?_
  refine x_iadd (pc := 921) K dL_law_921 ?_
  refine x_sld (pc := 922) (6 * i + 1) K hX hbB (by omega) (by omega) (by omega) dL_law_922 ?_
  refine x_callV (pc := 923) (C := RX11) (T := TX11) (n := 12) (ci := 10) (As := [.int (zI ((xs (6 * i + 1)).toInt))]) K (st_count hR (zI_rng _)) lg_X11_count rfl (na := 1) (by decide +kernel) rfl ⟨(Nat.le_of_ble_eq_true rfl), (Nat.le_of_ble_eq_true rfl)⟩ ho rfl (st := []) rfl (Nat.le_of_ble_eq_true rfl) ⟨(show kc + 0 ≤ 600000 by omega), (show ks + 0 ≤ 7302250 by omega)⟩ dL_law_923 (fun r1 N1 v1 hpo1 hN1 => ?_)
  obtain ⟨res, rfl, ⟨F, V, hm⟩, hM⟩ := hpo1
  refine x_aload_n (pc := 926) 1 K rfl rfl dL_law_926 ?_
  refine x_aload_n (pc := 927) 3 K rfl rfl dL_law_927 ?_
  refine x_iload_n (pc := 928) 0 K rfl rfl dL_law_928 ?_
  refine x_iconst (pc := 929) K dL_law_929 ?_
  refine x_iadd (pc := 930) K dL_law_930 ?_
  refine x_sld (pc := 931) (6 * i + 1) K hX hbB (by omega) (by omega) (by omega) dL_law_931 ?_
  refine x_callV (pc := 932) (C := RX12) (T := TX12) (n := 26) (ci := 11) (As := [.int (zI ((xs (6 * i + 1)).toInt))]) K hM lg_X12_count rfl (na := 1) (by decide +kernel) rfl ⟨(Nat.le_of_ble_eq_true rfl), (Nat.le_of_ble_eq_true rfl)⟩ hm rfl (st := [.int (zI res)]) rfl (Nat.le_of_ble_eq_true rfl) ⟨(show kc + 0 + 0 ≤ 600000 by omega), (show ks + 0 + 0 ≤ 7302250 by omega)⟩ dL_law_932 (fun r2 N2 v2 hpo2 hN2 => ?_)
  obtain ⟨rfl, hR2⟩ := hpo2
  refine x_same (pc := 935) (tgt := 953) K dL_law_935 (by decide) ?_
  exact x_widen (show kc + 0 + 0 ≤ kc + 28 by omega) (show ks + 0 + 0 ≤ ks + 270 by omega) (kk N2 v2 hR2)
theorem lc_status {Γ : XT} {E : XE} {B b Lx i N kc ks : Nat} {v : Nat → va_E} {xs : Nat → Int32} (K : Cx Γ E B cL_law RL lw_tbl room_1) (hX : va_X b Lx xs Γ.2.2.2.2.1 Γ.2.2.2.2.1.heap) (hbB : b < B) (hi : 6 * i + 6 ≤ Lx) (hLx : Lx ≤ 3072) (hR : REL E B N v) (hkc : kc + 28 ≤ 600000) (hks : ks + 270 ≤ 7302250) (kk : ∀ N2 v2, REL E B N2 v2 → XW Γ N2 v2 [(3, .int (zI (6 * (i : Int)))), (2, .ref (B + 161)), (1, .ref (B + 0)), (0, .ref b)] (kc + 28) (ks + 270) 953 []) : XW Γ N v [(3, .int (zI (6 * (i : Int)))), (2, .ref (B + 161)), (1, .ref (B + 0)), (0, .ref b)] kc ks 940 [] := by
  obtain ⟨fs, ho⟩ := REL_o hR
  refine x_aload_n (pc := 940) 2 K rfl rfl dL_law_940 ?_
  refine x_callV (pc := 941) (C := RX11) (T := TX11) (n := 12) (ci := 10) (As := []) K (st_status hR ) lg_X11_status rfl (na := 0) (by decide +kernel) rfl ⟨(Nat.le_of_ble_eq_true rfl), (Nat.le_of_ble_eq_true rfl)⟩ ho rfl (st := []) rfl (Nat.le_of_ble_eq_true rfl) ⟨(show kc + 0 ≤ 600000 by omega), (show ks + 0 ≤ 7302250 by omega)⟩ dL_law_941 (fun r1 N1 v1 hpo1 hN1 => ?_)
  obtain ⟨res, rfl, ⟨F, V, hm⟩, hM⟩ := hpo1
  refine x_aload_n (pc := 944) 1 K rfl rfl dL_law_944 ?_
  refine x_callV (pc := 945) (C := RX12) (T := TX12) (n := 26) (ci := 11) (As := []) K hM lg_X12_status rfl (na := 0) (by decide +kernel) rfl ⟨(Nat.le_of_ble_eq_true rfl), (Nat.le_of_ble_eq_true rfl)⟩ hm rfl (st := [.int (zI res)]) rfl (Nat.le_of_ble_eq_true rfl) ⟨(show kc + 0 + 0 ≤ 600000 by omega), (show ks + 0 + 0 ≤ 7302250 by omega)⟩ dL_law_945 (fun r2 N2 v2 hpo2 hN2 => ?_)
  obtain ⟨rfl, hR2⟩ := hpo2
  refine x_same (pc := 948) (tgt := 953) K dL_law_948 (by decide) ?_
  exact x_widen (show kc + 0 + 0 ≤ kc + 28 by omega) (show ks + 0 + 0 ≤ ks + 270 by omega) (kk N2 v2 hR2)
